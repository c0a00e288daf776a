/-! PAIRS: calls that change something -/
theorem p_weeks {M : jM} (hI : Inv M) {n : Int} (hn : -2147483648 ≤ n ∧ n ≤ 2147483647) : jCt yX11_weeks cX11_weeks 2 (some .int) 2 [jR 0, jI n] M (fun z M1 => jCt yX12_weeks cX12_weeks 2 (some .int) 2 [jR 928, jI n] M1 (fun z2 M2 => z = z2 ∧ Inv M2)) := by
  have hC := hI.cr
  have hn := hC.cnt
  have hg := hC.rng
  refine jCt_of mt_yX11_weeks (Nat.le_of_ble_eq_true rfl) (fun X => ?_)
  refine e_iload_n (i := 1) 1 dX11_weeks_0 rfl rfl rfl ?_
  refine e_iconst 2 dX11_weeks_1 rfl ?_
  refine e_bipush 4 dX11_weeks_2 (by decide) rfl ?_
  refine e_callS 7 mt_yX11_within ms_yX11_within wd_531 (by decide) dX11_weeks_4 rfl rfl (Nat.le_of_ble_eq_true rfl) (jroom (by decide)) rfl (c_within (by omega) (by omega) (by omega) (fun w4 => ?_) (fun w4 => ?_))
  · dsimp only [jpush]
    refine e_if_ne 10 13 dX11_weeks_7 (by decide) (by decide) rfl (fun _ => ?_) (fun h => absurd h (by decide))
    refine e_aload_n (i := 0) 14 dX11_weeks_13 rfl rfl rfl ?_
    refine e_getr (j := 0) 17 fl_11_10 dX11_weeks_14 at_0 rfl rfl tp_0_0 rfl ?_
    refine e_geti (j := 4) 20 fl_11_174 dX11_weeks_17 at_1 (by decide) rfl rfl (fun r17 => ?_)
    refine e_iload_n (i := 1) 21 dX11_weeks_20 rfl rfl rfl ?_
    refine e_iadd 22 dX11_weeks_21 rfl ?_
    refine e_sipush 25 dX11_weeks_22 (by decide) rfl ?_
    refine e_icmp_le 28 31 dX11_weeks_25 (by omega) (by decide) (by decide) rfl (fun b25 => ?_) (fun b25 => ?_)
    · skip
      refine e_aload_n (i := 0) 32 dX11_weeks_31 rfl rfl rfl ?_
      refine e_getr (j := 0) 35 fl_11_10 dX11_weeks_32 at_0 rfl rfl tp_0_0 rfl ?_
      refine e_dup 36 dX11_weeks_35 rfl rfl ?_
      refine e_geti (j := 4) 39 fl_11_174 dX11_weeks_36 at_1 (by decide) rfl rfl (fun r36 => ?_)
      refine e_iload_n (i := 1) 40 dX11_weeks_39 rfl rfl rfl ?_
      refine e_iadd 41 dX11_weeks_40 rfl ?_
      refine e_puti (j := 4) 44 fl_11_174 dX11_weeks_41 at_1 rfl rfl rfl (by omega) rfl ?_
      refine e_aload_n (i := 0) 45 dX11_weeks_44 rfl rfl rfl ?_
      refine e_getr (j := 0) 48 fl_11_10 dX11_weeks_45 at_0 rfl rfl tp_0_0 rfl ?_
      refine e_geti (j := 4) 51 fl_11_174 dX11_weeks_48 at_1 (by decide) rfl rfl (fun r48 => ?_)
      simp (disch := omega) only [jset_k, jset_j, jset_same] at r48 ⊢
      refine e_iret dX11_weeks_51 ?_
      refine jCt_of mt_yX12_weeks (Nat.le_of_ble_eq_true rfl) (fun X2 => ?_)
      refine e_aload_n (i := 0) 1 dX12_weeks_0 rfl rfl rfl ?_
      refine e_iconst 2 dX12_weeks_1 rfl ?_
      refine e_put0 (j := 0) 5 fl_12_1 dX12_weeks_2 at_928 rfl rfl rfl (by decide) (by simp (disch := omega) only [jset_k, jset_j, jset_same]; exact hI.1) rfl ?_
      refine e_iload_n (i := 1) 6 dX12_weeks_5 rfl rfl rfl ?_
      refine e_i2l 7 dX12_weeks_6 (by omega) rfl ?_
      refine e_lconst1 8 dX12_weeks_7 rfl ?_
      refine e_ldc2 (z := (52)) 11 (ix := 219) wd_1515 (by decide) dX12_weeks_8 rfl ?_
      refine e_callS 14 mt_yX12_within ms_yX12_within wd_1390 (by decide) dX12_weeks_11 rfl rfl (Nat.le_of_ble_eq_true rfl) (jroom (by decide)) rfl (m_within (by omega) (by omega) (by omega) (fun w11 => ?_) (fun w11 => ?_))
      · dsimp only [jpush]
        (try simp (disch := omega) only [jset_k, jset_j, jset_same] at w11)
        refine e_if_ne 17 20 dX12_weeks_14 (by decide) (by decide) rfl (fun _ => ?_) (fun h => absurd h (by decide))
        refine e_aload_n (i := 0) 21 dX12_weeks_20 rfl rfl rfl ?_
        refine e_getr (j := 1) 24 fl_12_13 dX12_weeks_21 at_928 rfl rfl tp_928_1 rfl ?_
        refine e_sipush 27 dX12_weeks_24 (by decide) rfl ?_
        refine e_iald 28 dX12_weeks_27 ar_929 (by decide) (by decide) rfl (fun r27 => ?_)
        simp (disch := omega) only [jset_k, jset_j, jset_same] at r27 ⊢
        refine e_iload_n (i := 1) 29 dX12_weeks_28 rfl rfl rfl ?_
        refine e_iadd 30 dX12_weeks_29 rfl ?_
        refine e_sipush 33 dX12_weeks_30 (by decide) rfl ?_
        refine e_icmp_le 36 39 dX12_weeks_33 (by omega) (by decide) (by decide) rfl (fun b33 => ?_) (fun b33 => ?_)
        · skip
          refine e_aload_n (i := 0) 40 dX12_weeks_39 rfl rfl rfl ?_
          refine e_getr (j := 1) 43 fl_12_13 dX12_weeks_40 at_928 rfl rfl tp_928_1 rfl ?_
          refine e_sipush 46 dX12_weeks_43 (by decide) rfl ?_
          refine e_dup2 47 dX12_weeks_46 rfl rfl rfl ?_
          refine e_iald 48 dX12_weeks_47 ar_929 (by decide) (by decide) rfl (fun r47 => ?_)
          simp (disch := omega) only [jset_k, jset_j, jset_same] at r47 ⊢
          refine e_iload_n (i := 1) 49 dX12_weeks_48 rfl rfl rfl ?_
          refine e_iadd 50 dX12_weeks_49 rfl ?_
          refine e_iast 51 dX12_weeks_50 ar_929 (by decide) (by decide) (by omega) rfl ?_
          refine e_aload_n (i := 0) 52 dX12_weeks_51 rfl rfl rfl ?_
          refine e_getr (j := 1) 55 fl_12_13 dX12_weeks_52 at_928 rfl rfl tp_928_1 rfl ?_
          refine e_sipush 58 dX12_weeks_55 (by decide) rfl ?_
          refine e_iald 59 dX12_weeks_58 ar_929 (by decide) (by decide) rfl (fun r58 => ?_)
          simp (disch := omega) only [jset_k, jset_j, jset_same] at r58 ⊢
          refine e_iret dX12_weeks_59 ?_
          first
            | (exact ⟨by omega, hI⟩)
            | (exfalso; omega)
            | (refine ⟨by omega, ?_⟩
               refine hI.live ?_ ?_ ?_
               · repeat (first | exact Live.rf | refine Live.c ?_ (by omega) | refine Live.r ?_ (by omega) | refine Live.s ?_ (by omega))
               · refine ⟨?_, ?_, ?_, ?_, ?_, ?_, ?_, ?_, ?_, ?_, ?_⟩
                 · have h := hI.2.1.1
                   unfold RCnt at h ⊢
                   simp (disch := omega) only [jset_k, jset_j, jset_same]
                   omega
                 · exact hI.2.1.2.1.fr (fun i a b => by simp (disch := omega) only [jset_k, jset_j, jset_same])
                 · exact hI.2.1.2.2.1.fr (fun i a b => by simp (disch := omega) only [jset_k, jset_j, jset_same])
                 · exact hI.2.1.2.2.2.1.fr (by omega) (fun i a b => by simp (disch := omega) only [jset_k, jset_j, jset_same])
                 · exact hI.2.1.2.2.2.2.1.fr (by omega) (fun i a b => by simp (disch := omega) only [jset_k, jset_j, jset_same]) (fun i a b => by simp (disch := omega) only [jset_k, jset_j, jset_same])
                 · intro p h0 h1
                   simp (disch := omega) only [jset_k, jset_j, jset_same] at h1
                   have h := hI.2.1.2.2.2.2.2.1 p h0 h1
                   simp (disch := omega) only [jset_k, jset_j, jset_same]
                   omega
                 · exact hI.2.1.2.2.2.2.2.2.1.fr (by omega) (by simp (disch := omega) only [jset_k, jset_j, jset_same]) (fun i a b => by simp (disch := omega) only [jset_k, jset_j, jset_same])
                 · exact hI.2.1.2.2.2.2.2.2.2.1.fr (by omega) (fun i a b => by simp (disch := omega) only [jset_k, jset_j, jset_same]) (fun i a b => by simp (disch := omega) only [jset_k, jset_j, jset_same]) (by simp (disch := omega) only [jset_k, jset_j, jset_same]; omega)
                 · exact hI.2.1.2.2.2.2.2.2.2.2.1.fr (by omega) (fun i a b => by simp (disch := omega) only [jset_k, jset_j, jset_same])
                 · exact hI.2.1.2.2.2.2.2.2.2.2.2.1.fr (fun i a b => by simp (disch := omega) only [jset_k, jset_j, jset_same])
                 · exact hI.2.1.2.2.2.2.2.2.2.2.2.2.fr (fun i a b => by simp (disch := omega) only [jset_k, jset_j, jset_same])
               · refine ⟨?_, ?_, ?_, ?_, ?_, ?_, ?_, ?_, ?_, ?_, ?_, ?_⟩
                 · have h := hC.cnt
                   unfold CCnt cv
                   simp (disch := omega) only [jset_k, jset_j, jset_same, Int.reduceAdd]
                   omega
                 · exact hI.2.2.1.2.1.fr hI.2.1.2.1 (by omega) (fun k j a b => by show _ = M (1 + k) j; unfold cv; simp (disch := omega) only [jset_k, jset_j, jset_same]) (fun i a b => by simp (disch := omega) only [jset_k, jset_j, jset_same])
                 · exact hI.2.2.1.2.2.1.fr hI.2.1.2.2.1 (by omega) (fun k j a b => by show _ = M (1 + k) j; unfold cv; simp (disch := omega) only [jset_k, jset_j, jset_same]) (fun i a b => by simp (disch := omega) only [jset_k, jset_j, jset_same])
                 · exact hI.2.2.1.2.2.2.1.fr (by omega) (fun k j a b => by show _ = M (1 + k) j; unfold cv; simp (disch := omega) only [jset_k, jset_j, jset_same]) (fun i a b => by simp (disch := omega) only [jset_k, jset_j, jset_same])
                 · exact hI.2.2.1.2.2.2.2.1.fr (by omega) (fun k j a b => by show _ = M (1 + k) j; unfold cv; simp (disch := omega) only [jset_k, jset_j, jset_same]) (fun i a b => by simp (disch := omega) only [jset_k, jset_j, jset_same]) (fun i a b => by simp (disch := omega) only [jset_k, jset_j, jset_same])
                 · exact hI.2.2.1.2.2.2.2.2.1.fr (by omega) (fun k j a b => by show _ = M (1 + k) j; unfold cv; simp (disch := omega) only [jset_k, jset_j, jset_same]) (fun i a b => by simp (disch := omega) only [jset_k, jset_j, jset_same]) (fun i a b => by simp (disch := omega) only [jset_k, jset_j, jset_same])
                 · exact hI.2.2.1.2.2.2.2.2.2.1.fr (by omega) (fun k j a b => by show _ = M (1 + k) j; unfold cv; simp (disch := omega) only [jset_k, jset_j, jset_same]) (fun i a b => by simp (disch := omega) only [jset_k, jset_j, jset_same]) (fun i a b => by simp (disch := omega) only [jset_k, jset_j, jset_same])
                 · exact hI.2.2.1.2.2.2.2.2.2.2.1.fr (by omega) (fun k j a b => by show _ = M (1 + k) j; unfold cv; simp (disch := omega) only [jset_k, jset_j, jset_same]) (fun i a b => by simp (disch := omega) only [jset_k, jset_j, jset_same])
                 · exact hI.2.2.1.2.2.2.2.2.2.2.2.1.fr (fun k j a b => by show _ = M (1 + k) j; unfold cv; simp (disch := omega) only [jset_k, jset_j, jset_same]) (fun i a b => by simp (disch := omega) only [jset_k, jset_j, jset_same])
                 · exact hI.2.2.1.2.2.2.2.2.2.2.2.2.1.fr (fun k j a b => by show _ = M (1 + k) j; unfold cv; simp (disch := omega) only [jset_k, jset_j, jset_same]) (fun i a b => by simp (disch := omega) only [jset_k, jset_j, jset_same])
                 · exact hI.2.2.1.2.2.2.2.2.2.2.2.2.2.1.fr (by omega) (fun k j a b => by show _ = M (1 + k) j; unfold cv; simp (disch := omega) only [jset_k, jset_j, jset_same]) (fun i a b => by simp (disch := omega) only [jset_k, jset_j, jset_same])
                 · exact hI.2.2.1.2.2.2.2.2.2.2.2.2.2.2.fr hI.2.1.2.2.2.2.2.2.2.2.2.2 (fun k j a b => by show _ = M (1 + k) j; unfold cv; simp (disch := omega) only [jset_k, jset_j, jset_same]) (fun i a b => by simp (disch := omega) only [jset_k, jset_j, jset_same]))
        · skip
          refine e_bipush 38 dX12_weeks_36 (by decide) rfl ?_
          refine e_iret dX12_weeks_38 ?_
          first
            | (exact ⟨by omega, hI⟩)
            | (exfalso; omega)
            | (refine ⟨by omega, ?_⟩
               refine hI.live ?_ ?_ ?_
               · repeat (first | exact Live.rf | refine Live.c ?_ (by omega) | refine Live.r ?_ (by omega) | refine Live.s ?_ (by omega))
               · refine ⟨?_, ?_, ?_, ?_, ?_, ?_, ?_, ?_, ?_, ?_, ?_⟩
                 · have h := hI.2.1.1
                   unfold RCnt at h ⊢
                   simp (disch := omega) only [jset_k, jset_j, jset_same]
                   omega
                 · exact hI.2.1.2.1.fr (fun i a b => by simp (disch := omega) only [jset_k, jset_j, jset_same])
                 · exact hI.2.1.2.2.1.fr (fun i a b => by simp (disch := omega) only [jset_k, jset_j, jset_same])
                 · exact hI.2.1.2.2.2.1.fr (by omega) (fun i a b => by simp (disch := omega) only [jset_k, jset_j, jset_same])
                 · exact hI.2.1.2.2.2.2.1.fr (by omega) (fun i a b => by simp (disch := omega) only [jset_k, jset_j, jset_same]) (fun i a b => by simp (disch := omega) only [jset_k, jset_j, jset_same])
                 · intro p h0 h1
                   simp (disch := omega) only [jset_k, jset_j, jset_same] at h1
                   have h := hI.2.1.2.2.2.2.2.1 p h0 h1
                   simp (disch := omega) only [jset_k, jset_j, jset_same]
                   omega
                 · exact hI.2.1.2.2.2.2.2.2.1.fr (by omega) (by simp (disch := omega) only [jset_k, jset_j, jset_same]) (fun i a b => by simp (disch := omega) only [jset_k, jset_j, jset_same])
                 · exact hI.2.1.2.2.2.2.2.2.2.1.fr (by omega) (fun i a b => by simp (disch := omega) only [jset_k, jset_j, jset_same]) (fun i a b => by simp (disch := omega) only [jset_k, jset_j, jset_same]) (by simp (disch := omega) only [jset_k, jset_j, jset_same]; omega)
                 · exact hI.2.1.2.2.2.2.2.2.2.2.1.fr (by omega) (fun i a b => by simp (disch := omega) only [jset_k, jset_j, jset_same])
                 · exact hI.2.1.2.2.2.2.2.2.2.2.2.1.fr (fun i a b => by simp (disch := omega) only [jset_k, jset_j, jset_same])
                 · exact hI.2.1.2.2.2.2.2.2.2.2.2.2.fr (fun i a b => by simp (disch := omega) only [jset_k, jset_j, jset_same])
               · refine ⟨?_, ?_, ?_, ?_, ?_, ?_, ?_, ?_, ?_, ?_, ?_, ?_⟩
                 · have h := hC.cnt
                   unfold CCnt cv
                   simp (disch := omega) only [jset_k, jset_j, jset_same, Int.reduceAdd]
                   omega
                 · exact hI.2.2.1.2.1.fr hI.2.1.2.1 (by omega) (fun k j a b => by show _ = M (1 + k) j; unfold cv; simp (disch := omega) only [jset_k, jset_j, jset_same]) (fun i a b => by simp (disch := omega) only [jset_k, jset_j, jset_same])
                 · exact hI.2.2.1.2.2.1.fr hI.2.1.2.2.1 (by omega) (fun k j a b => by show _ = M (1 + k) j; unfold cv; simp (disch := omega) only [jset_k, jset_j, jset_same]) (fun i a b => by simp (disch := omega) only [jset_k, jset_j, jset_same])
                 · exact hI.2.2.1.2.2.2.1.fr (by omega) (fun k j a b => by show _ = M (1 + k) j; unfold cv; simp (disch := omega) only [jset_k, jset_j, jset_same]) (fun i a b => by simp (disch := omega) only [jset_k, jset_j, jset_same])
                 · exact hI.2.2.1.2.2.2.2.1.fr (by omega) (fun k j a b => by show _ = M (1 + k) j; unfold cv; simp (disch := omega) only [jset_k, jset_j, jset_same]) (fun i a b => by simp (disch := omega) only [jset_k, jset_j, jset_same]) (fun i a b => by simp (disch := omega) only [jset_k, jset_j, jset_same])
                 · exact hI.2.2.1.2.2.2.2.2.1.fr (by omega) (fun k j a b => by show _ = M (1 + k) j; unfold cv; simp (disch := omega) only [jset_k, jset_j, jset_same]) (fun i a b => by simp (disch := omega) only [jset_k, jset_j, jset_same]) (fun i a b => by simp (disch := omega) only [jset_k, jset_j, jset_same])
                 · exact hI.2.2.1.2.2.2.2.2.2.1.fr (by omega) (fun k j a b => by show _ = M (1 + k) j; unfold cv; simp (disch := omega) only [jset_k, jset_j, jset_same]) (fun i a b => by simp (disch := omega) only [jset_k, jset_j, jset_same]) (fun i a b => by simp (disch := omega) only [jset_k, jset_j, jset_same])
                 · exact hI.2.2.1.2.2.2.2.2.2.2.1.fr (by omega) (fun k j a b => by show _ = M (1 + k) j; unfold cv; simp (disch := omega) only [jset_k, jset_j, jset_same]) (fun i a b => by simp (disch := omega) only [jset_k, jset_j, jset_same])
                 · exact hI.2.2.1.2.2.2.2.2.2.2.2.1.fr (fun k j a b => by show _ = M (1 + k) j; unfold cv; simp (disch := omega) only [jset_k, jset_j, jset_same]) (fun i a b => by simp (disch := omega) only [jset_k, jset_j, jset_same])
                 · exact hI.2.2.1.2.2.2.2.2.2.2.2.2.1.fr (fun k j a b => by show _ = M (1 + k) j; unfold cv; simp (disch := omega) only [jset_k, jset_j, jset_same]) (fun i a b => by simp (disch := omega) only [jset_k, jset_j, jset_same])
                 · exact hI.2.2.1.2.2.2.2.2.2.2.2.2.2.1.fr (by omega) (fun k j a b => by show _ = M (1 + k) j; unfold cv; simp (disch := omega) only [jset_k, jset_j, jset_same]) (fun i a b => by simp (disch := omega) only [jset_k, jset_j, jset_same])
                 · exact hI.2.2.1.2.2.2.2.2.2.2.2.2.2.2.fr hI.2.1.2.2.2.2.2.2.2.2.2.2 (fun k j a b => by show _ = M (1 + k) j; unfold cv; simp (disch := omega) only [jset_k, jset_j, jset_same]) (fun i a b => by simp (disch := omega) only [jset_k, jset_j, jset_same]))
      · dsimp only [jpush]
        (try simp (disch := omega) only [jset_k, jset_j, jset_same] at w11)
        refine e_if_ne 17 20 dX12_weeks_14 (by decide) (by decide) rfl (fun h => absurd h (by decide)) (fun _ => ?_)
        refine e_bipush 19 dX12_weeks_17 (by decide) rfl ?_
        refine e_iret dX12_weeks_19 ?_
        first
          | (exact ⟨by omega, hI⟩)
          | (exfalso; omega)
          | (refine ⟨by omega, ?_⟩
             refine hI.live ?_ ?_ ?_
             · repeat (first | exact Live.rf | refine Live.c ?_ (by omega) | refine Live.r ?_ (by omega) | refine Live.s ?_ (by omega))
             · refine ⟨?_, ?_, ?_, ?_, ?_, ?_, ?_, ?_, ?_, ?_, ?_⟩
               · have h := hI.2.1.1
                 unfold RCnt at h ⊢
                 simp (disch := omega) only [jset_k, jset_j, jset_same]
                 omega
               · exact hI.2.1.2.1.fr (fun i a b => by simp (disch := omega) only [jset_k, jset_j, jset_same])
               · exact hI.2.1.2.2.1.fr (fun i a b => by simp (disch := omega) only [jset_k, jset_j, jset_same])
               · exact hI.2.1.2.2.2.1.fr (by omega) (fun i a b => by simp (disch := omega) only [jset_k, jset_j, jset_same])
               · exact hI.2.1.2.2.2.2.1.fr (by omega) (fun i a b => by simp (disch := omega) only [jset_k, jset_j, jset_same]) (fun i a b => by simp (disch := omega) only [jset_k, jset_j, jset_same])
               · intro p h0 h1
                 simp (disch := omega) only [jset_k, jset_j, jset_same] at h1
                 have h := hI.2.1.2.2.2.2.2.1 p h0 h1
                 simp (disch := omega) only [jset_k, jset_j, jset_same]
                 omega
               · exact hI.2.1.2.2.2.2.2.2.1.fr (by omega) (by simp (disch := omega) only [jset_k, jset_j, jset_same]) (fun i a b => by simp (disch := omega) only [jset_k, jset_j, jset_same])
               · exact hI.2.1.2.2.2.2.2.2.2.1.fr (by omega) (fun i a b => by simp (disch := omega) only [jset_k, jset_j, jset_same]) (fun i a b => by simp (disch := omega) only [jset_k, jset_j, jset_same]) (by simp (disch := omega) only [jset_k, jset_j, jset_same]; omega)
               · exact hI.2.1.2.2.2.2.2.2.2.2.1.fr (by omega) (fun i a b => by simp (disch := omega) only [jset_k, jset_j, jset_same])
               · exact hI.2.1.2.2.2.2.2.2.2.2.2.1.fr (fun i a b => by simp (disch := omega) only [jset_k, jset_j, jset_same])
               · exact hI.2.1.2.2.2.2.2.2.2.2.2.2.fr (fun i a b => by simp (disch := omega) only [jset_k, jset_j, jset_same])
             · refine ⟨?_, ?_, ?_, ?_, ?_, ?_, ?_, ?_, ?_, ?_, ?_, ?_⟩
               · have h := hC.cnt
                 unfold CCnt cv
                 simp (disch := omega) only [jset_k, jset_j, jset_same, Int.reduceAdd]
                 omega
               · exact hI.2.2.1.2.1.fr hI.2.1.2.1 (by omega) (fun k j a b => by show _ = M (1 + k) j; unfold cv; simp (disch := omega) only [jset_k, jset_j, jset_same]) (fun i a b => by simp (disch := omega) only [jset_k, jset_j, jset_same])
               · exact hI.2.2.1.2.2.1.fr hI.2.1.2.2.1 (by omega) (fun k j a b => by show _ = M (1 + k) j; unfold cv; simp (disch := omega) only [jset_k, jset_j, jset_same]) (fun i a b => by simp (disch := omega) only [jset_k, jset_j, jset_same])
               · exact hI.2.2.1.2.2.2.1.fr (by omega) (fun k j a b => by show _ = M (1 + k) j; unfold cv; simp (disch := omega) only [jset_k, jset_j, jset_same]) (fun i a b => by simp (disch := omega) only [jset_k, jset_j, jset_same])
               · exact hI.2.2.1.2.2.2.2.1.fr (by omega) (fun k j a b => by show _ = M (1 + k) j; unfold cv; simp (disch := omega) only [jset_k, jset_j, jset_same]) (fun i a b => by simp (disch := omega) only [jset_k, jset_j, jset_same]) (fun i a b => by simp (disch := omega) only [jset_k, jset_j, jset_same])
               · exact hI.2.2.1.2.2.2.2.2.1.fr (by omega) (fun k j a b => by show _ = M (1 + k) j; unfold cv; simp (disch := omega) only [jset_k, jset_j, jset_same]) (fun i a b => by simp (disch := omega) only [jset_k, jset_j, jset_same]) (fun i a b => by simp (disch := omega) only [jset_k, jset_j, jset_same])
               · exact hI.2.2.1.2.2.2.2.2.2.1.fr (by omega) (fun k j a b => by show _ = M (1 + k) j; unfold cv; simp (disch := omega) only [jset_k, jset_j, jset_same]) (fun i a b => by simp (disch := omega) only [jset_k, jset_j, jset_same]) (fun i a b => by simp (disch := omega) only [jset_k, jset_j, jset_same])
               · exact hI.2.2.1.2.2.2.2.2.2.2.1.fr (by omega) (fun k j a b => by show _ = M (1 + k) j; unfold cv; simp (disch := omega) only [jset_k, jset_j, jset_same]) (fun i a b => by simp (disch := omega) only [jset_k, jset_j, jset_same])
               · exact hI.2.2.1.2.2.2.2.2.2.2.2.1.fr (fun k j a b => by show _ = M (1 + k) j; unfold cv; simp (disch := omega) only [jset_k, jset_j, jset_same]) (fun i a b => by simp (disch := omega) only [jset_k, jset_j, jset_same])
               · exact hI.2.2.1.2.2.2.2.2.2.2.2.2.1.fr (fun k j a b => by show _ = M (1 + k) j; unfold cv; simp (disch := omega) only [jset_k, jset_j, jset_same]) (fun i a b => by simp (disch := omega) only [jset_k, jset_j, jset_same])
               · exact hI.2.2.1.2.2.2.2.2.2.2.2.2.2.1.fr (by omega) (fun k j a b => by show _ = M (1 + k) j; unfold cv; simp (disch := omega) only [jset_k, jset_j, jset_same]) (fun i a b => by simp (disch := omega) only [jset_k, jset_j, jset_same])
               · exact hI.2.2.1.2.2.2.2.2.2.2.2.2.2.2.fr hI.2.1.2.2.2.2.2.2.2.2.2.2 (fun k j a b => by show _ = M (1 + k) j; unfold cv; simp (disch := omega) only [jset_k, jset_j, jset_same]) (fun i a b => by simp (disch := omega) only [jset_k, jset_j, jset_same]))
    · skip
      refine e_bipush 30 dX11_weeks_28 (by decide) rfl ?_
      refine e_iret dX11_weeks_30 ?_
      refine jCt_of mt_yX12_weeks (Nat.le_of_ble_eq_true rfl) (fun X2 => ?_)
      refine e_aload_n (i := 0) 1 dX12_weeks_0 rfl rfl rfl ?_
      refine e_iconst 2 dX12_weeks_1 rfl ?_
      refine e_put0 (j := 0) 5 fl_12_1 dX12_weeks_2 at_928 rfl rfl rfl (by decide) hI.1 rfl ?_
      refine e_iload_n (i := 1) 6 dX12_weeks_5 rfl rfl rfl ?_
      refine e_i2l 7 dX12_weeks_6 (by omega) rfl ?_
      refine e_lconst1 8 dX12_weeks_7 rfl ?_
      refine e_ldc2 (z := (52)) 11 (ix := 219) wd_1515 (by decide) dX12_weeks_8 rfl ?_
      refine e_callS 14 mt_yX12_within ms_yX12_within wd_1390 (by decide) dX12_weeks_11 rfl rfl (Nat.le_of_ble_eq_true rfl) (jroom (by decide)) rfl (m_within (by omega) (by omega) (by omega) (fun w11 => ?_) (fun w11 => ?_))
      · dsimp only [jpush]
        refine e_if_ne 17 20 dX12_weeks_14 (by decide) (by decide) rfl (fun _ => ?_) (fun h => absurd h (by decide))
        refine e_aload_n (i := 0) 21 dX12_weeks_20 rfl rfl rfl ?_
        refine e_getr (j := 1) 24 fl_12_13 dX12_weeks_21 at_928 rfl rfl tp_928_1 rfl ?_
        refine e_sipush 27 dX12_weeks_24 (by decide) rfl ?_
        refine e_iald 28 dX12_weeks_27 ar_929 (by decide) (by decide) rfl (fun r27 => ?_)
        refine e_iload_n (i := 1) 29 dX12_weeks_28 rfl rfl rfl ?_
        refine e_iadd 30 dX12_weeks_29 rfl ?_
        refine e_sipush 33 dX12_weeks_30 (by decide) rfl ?_
        refine e_icmp_le 36 39 dX12_weeks_33 (by omega) (by decide) (by decide) rfl (fun b33 => ?_) (fun b33 => ?_)
        · skip
          refine e_aload_n (i := 0) 40 dX12_weeks_39 rfl rfl rfl ?_
          refine e_getr (j := 1) 43 fl_12_13 dX12_weeks_40 at_928 rfl rfl tp_928_1 rfl ?_
          refine e_sipush 46 dX12_weeks_43 (by decide) rfl ?_
          refine e_dup2 47 dX12_weeks_46 rfl rfl rfl ?_
          refine e_iald 48 dX12_weeks_47 ar_929 (by decide) (by decide) rfl (fun r47 => ?_)
          refine e_iload_n (i := 1) 49 dX12_weeks_48 rfl rfl rfl ?_
          refine e_iadd 50 dX12_weeks_49 rfl ?_
          refine e_iast 51 dX12_weeks_50 ar_929 (by decide) (by decide) (by omega) rfl ?_
          refine e_aload_n (i := 0) 52 dX12_weeks_51 rfl rfl rfl ?_
          refine e_getr (j := 1) 55 fl_12_13 dX12_weeks_52 at_928 rfl rfl tp_928_1 rfl ?_
          refine e_sipush 58 dX12_weeks_55 (by decide) rfl ?_
          refine e_iald 59 dX12_weeks_58 ar_929 (by decide) (by decide) rfl (fun r58 => ?_)
          simp (disch := omega) only [jset_k, jset_j, jset_same] at r58 ⊢
          refine e_iret dX12_weeks_59 ?_
          first
            | (exact ⟨by omega, hI⟩)
            | (exfalso; omega)
            | (refine ⟨by omega, ?_⟩
               refine hI.live ?_ ?_ ?_
               · repeat (first | exact Live.rf | refine Live.c ?_ (by omega) | refine Live.r ?_ (by omega) | refine Live.s ?_ (by omega))
               · refine ⟨?_, ?_, ?_, ?_, ?_, ?_, ?_, ?_, ?_, ?_, ?_⟩
                 · have h := hI.2.1.1
                   unfold RCnt at h ⊢
                   simp (disch := omega) only [jset_k, jset_j, jset_same]
                   omega
                 · exact hI.2.1.2.1.fr (fun i a b => by simp (disch := omega) only [jset_k, jset_j, jset_same])
                 · exact hI.2.1.2.2.1.fr (fun i a b => by simp (disch := omega) only [jset_k, jset_j, jset_same])
                 · exact hI.2.1.2.2.2.1.fr (by omega) (fun i a b => by simp (disch := omega) only [jset_k, jset_j, jset_same])
                 · exact hI.2.1.2.2.2.2.1.fr (by omega) (fun i a b => by simp (disch := omega) only [jset_k, jset_j, jset_same]) (fun i a b => by simp (disch := omega) only [jset_k, jset_j, jset_same])
                 · intro p h0 h1
                   simp (disch := omega) only [jset_k, jset_j, jset_same] at h1
                   have h := hI.2.1.2.2.2.2.2.1 p h0 h1
                   simp (disch := omega) only [jset_k, jset_j, jset_same]
                   omega
                 · exact hI.2.1.2.2.2.2.2.2.1.fr (by omega) (by simp (disch := omega) only [jset_k, jset_j, jset_same]) (fun i a b => by simp (disch := omega) only [jset_k, jset_j, jset_same])
                 · exact hI.2.1.2.2.2.2.2.2.2.1.fr (by omega) (fun i a b => by simp (disch := omega) only [jset_k, jset_j, jset_same]) (fun i a b => by simp (disch := omega) only [jset_k, jset_j, jset_same]) (by simp (disch := omega) only [jset_k, jset_j, jset_same]; omega)
                 · exact hI.2.1.2.2.2.2.2.2.2.2.1.fr (by omega) (fun i a b => by simp (disch := omega) only [jset_k, jset_j, jset_same])
                 · exact hI.2.1.2.2.2.2.2.2.2.2.2.1.fr (fun i a b => by simp (disch := omega) only [jset_k, jset_j, jset_same])
                 · exact hI.2.1.2.2.2.2.2.2.2.2.2.2.fr (fun i a b => by simp (disch := omega) only [jset_k, jset_j, jset_same])
               · refine ⟨?_, ?_, ?_, ?_, ?_, ?_, ?_, ?_, ?_, ?_, ?_, ?_⟩
                 · have h := hC.cnt
                   unfold CCnt cv
                   simp (disch := omega) only [jset_k, jset_j, jset_same, Int.reduceAdd]
                   omega
                 · exact hI.2.2.1.2.1.fr hI.2.1.2.1 (by omega) (fun k j a b => by show _ = M (1 + k) j; unfold cv; simp (disch := omega) only [jset_k, jset_j, jset_same]) (fun i a b => by simp (disch := omega) only [jset_k, jset_j, jset_same])
                 · exact hI.2.2.1.2.2.1.fr hI.2.1.2.2.1 (by omega) (fun k j a b => by show _ = M (1 + k) j; unfold cv; simp (disch := omega) only [jset_k, jset_j, jset_same]) (fun i a b => by simp (disch := omega) only [jset_k, jset_j, jset_same])
                 · exact hI.2.2.1.2.2.2.1.fr (by omega) (fun k j a b => by show _ = M (1 + k) j; unfold cv; simp (disch := omega) only [jset_k, jset_j, jset_same]) (fun i a b => by simp (disch := omega) only [jset_k, jset_j, jset_same])
                 · exact hI.2.2.1.2.2.2.2.1.fr (by omega) (fun k j a b => by show _ = M (1 + k) j; unfold cv; simp (disch := omega) only [jset_k, jset_j, jset_same]) (fun i a b => by simp (disch := omega) only [jset_k, jset_j, jset_same]) (fun i a b => by simp (disch := omega) only [jset_k, jset_j, jset_same])
                 · exact hI.2.2.1.2.2.2.2.2.1.fr (by omega) (fun k j a b => by show _ = M (1 + k) j; unfold cv; simp (disch := omega) only [jset_k, jset_j, jset_same]) (fun i a b => by simp (disch := omega) only [jset_k, jset_j, jset_same]) (fun i a b => by simp (disch := omega) only [jset_k, jset_j, jset_same])
                 · exact hI.2.2.1.2.2.2.2.2.2.1.fr (by omega) (fun k j a b => by show _ = M (1 + k) j; unfold cv; simp (disch := omega) only [jset_k, jset_j, jset_same]) (fun i a b => by simp (disch := omega) only [jset_k, jset_j, jset_same]) (fun i a b => by simp (disch := omega) only [jset_k, jset_j, jset_same])
                 · exact hI.2.2.1.2.2.2.2.2.2.2.1.fr (by omega) (fun k j a b => by show _ = M (1 + k) j; unfold cv; simp (disch := omega) only [jset_k, jset_j, jset_same]) (fun i a b => by simp (disch := omega) only [jset_k, jset_j, jset_same])
                 · exact hI.2.2.1.2.2.2.2.2.2.2.2.1.fr (fun k j a b => by show _ = M (1 + k) j; unfold cv; simp (disch := omega) only [jset_k, jset_j, jset_same]) (fun i a b => by simp (disch := omega) only [jset_k, jset_j, jset_same])
                 · exact hI.2.2.1.2.2.2.2.2.2.2.2.2.1.fr (fun k j a b => by show _ = M (1 + k) j; unfold cv; simp (disch := omega) only [jset_k, jset_j, jset_same]) (fun i a b => by simp (disch := omega) only [jset_k, jset_j, jset_same])
                 · exact hI.2.2.1.2.2.2.2.2.2.2.2.2.2.1.fr (by omega) (fun k j a b => by show _ = M (1 + k) j; unfold cv; simp (disch := omega) only [jset_k, jset_j, jset_same]) (fun i a b => by simp (disch := omega) only [jset_k, jset_j, jset_same])
                 · exact hI.2.2.1.2.2.2.2.2.2.2.2.2.2.2.fr hI.2.1.2.2.2.2.2.2.2.2.2.2 (fun k j a b => by show _ = M (1 + k) j; unfold cv; simp (disch := omega) only [jset_k, jset_j, jset_same]) (fun i a b => by simp (disch := omega) only [jset_k, jset_j, jset_same]))
        · skip
          refine e_bipush 38 dX12_weeks_36 (by decide) rfl ?_
          refine e_iret dX12_weeks_38 ?_
          exact ⟨by omega, hI⟩
      · dsimp only [jpush]
        refine e_if_ne 17 20 dX12_weeks_14 (by decide) (by decide) rfl (fun h => absurd h (by decide)) (fun _ => ?_)
        refine e_bipush 19 dX12_weeks_17 (by decide) rfl ?_
        refine e_iret dX12_weeks_19 ?_
        exact ⟨by omega, hI⟩
  · dsimp only [jpush]
    refine e_if_ne 10 13 dX11_weeks_7 (by decide) (by decide) rfl (fun h => absurd h (by decide)) (fun _ => ?_)
    refine e_bipush 12 dX11_weeks_10 (by decide) rfl ?_
    refine e_iret dX11_weeks_12 ?_
    refine jCt_of mt_yX12_weeks (Nat.le_of_ble_eq_true rfl) (fun X2 => ?_)
    refine e_aload_n (i := 0) 1 dX12_weeks_0 rfl rfl rfl ?_
    refine e_iconst 2 dX12_weeks_1 rfl ?_
    refine e_put0 (j := 0) 5 fl_12_1 dX12_weeks_2 at_928 rfl rfl rfl (by decide) hI.1 rfl ?_
    refine e_iload_n (i := 1) 6 dX12_weeks_5 rfl rfl rfl ?_
    refine e_i2l 7 dX12_weeks_6 (by omega) rfl ?_
    refine e_lconst1 8 dX12_weeks_7 rfl ?_
    refine e_ldc2 (z := (52)) 11 (ix := 219) wd_1515 (by decide) dX12_weeks_8 rfl ?_
    refine e_callS 14 mt_yX12_within ms_yX12_within wd_1390 (by decide) dX12_weeks_11 rfl rfl (Nat.le_of_ble_eq_true rfl) (jroom (by decide)) rfl (m_within (by omega) (by omega) (by omega) (fun w11 => ?_) (fun w11 => ?_))
    · dsimp only [jpush]
      refine e_if_ne 17 20 dX12_weeks_14 (by decide) (by decide) rfl (fun _ => ?_) (fun h => absurd h (by decide))
      refine e_aload_n (i := 0) 21 dX12_weeks_20 rfl rfl rfl ?_
      refine e_getr (j := 1) 24 fl_12_13 dX12_weeks_21 at_928 rfl rfl tp_928_1 rfl ?_
      refine e_sipush 27 dX12_weeks_24 (by decide) rfl ?_
      refine e_iald 28 dX12_weeks_27 ar_929 (by decide) (by decide) rfl (fun r27 => ?_)
      refine e_iload_n (i := 1) 29 dX12_weeks_28 rfl rfl rfl ?_
      refine e_iadd 30 dX12_weeks_29 rfl ?_
      refine e_sipush 33 dX12_weeks_30 (by decide) rfl ?_
      refine e_icmp_le 36 39 dX12_weeks_33 (by omega) (by decide) (by decide) rfl (fun b33 => ?_) (fun b33 => ?_)
      · skip
        refine e_aload_n (i := 0) 40 dX12_weeks_39 rfl rfl rfl ?_
        refine e_getr (j := 1) 43 fl_12_13 dX12_weeks_40 at_928 rfl rfl tp_928_1 rfl ?_
        refine e_sipush 46 dX12_weeks_43 (by decide) rfl ?_
        refine e_dup2 47 dX12_weeks_46 rfl rfl rfl ?_
        refine e_iald 48 dX12_weeks_47 ar_929 (by decide) (by decide) rfl (fun r47 => ?_)
        refine e_iload_n (i := 1) 49 dX12_weeks_48 rfl rfl rfl ?_
        refine e_iadd 50 dX12_weeks_49 rfl ?_
        refine e_iast 51 dX12_weeks_50 ar_929 (by decide) (by decide) (by omega) rfl ?_
        refine e_aload_n (i := 0) 52 dX12_weeks_51 rfl rfl rfl ?_
        refine e_getr (j := 1) 55 fl_12_13 dX12_weeks_52 at_928 rfl rfl tp_928_1 rfl ?_
        refine e_sipush 58 dX12_weeks_55 (by decide) rfl ?_
        refine e_iald 59 dX12_weeks_58 ar_929 (by decide) (by decide) rfl (fun r58 => ?_)
        simp (disch := omega) only [jset_k, jset_j, jset_same] at r58 ⊢
        refine e_iret dX12_weeks_59 ?_
        first
          | (exact ⟨by omega, hI⟩)
          | (exfalso; omega)
          | (refine ⟨by omega, ?_⟩
             refine hI.live ?_ ?_ ?_
             · repeat (first | exact Live.rf | refine Live.c ?_ (by omega) | refine Live.r ?_ (by omega) | refine Live.s ?_ (by omega))
             · refine ⟨?_, ?_, ?_, ?_, ?_, ?_, ?_, ?_, ?_, ?_, ?_⟩
               · have h := hI.2.1.1
                 unfold RCnt at h ⊢
                 simp (disch := omega) only [jset_k, jset_j, jset_same]
                 omega
               · exact hI.2.1.2.1.fr (fun i a b => by simp (disch := omega) only [jset_k, jset_j, jset_same])
               · exact hI.2.1.2.2.1.fr (fun i a b => by simp (disch := omega) only [jset_k, jset_j, jset_same])
               · exact hI.2.1.2.2.2.1.fr (by omega) (fun i a b => by simp (disch := omega) only [jset_k, jset_j, jset_same])
               · exact hI.2.1.2.2.2.2.1.fr (by omega) (fun i a b => by simp (disch := omega) only [jset_k, jset_j, jset_same]) (fun i a b => by simp (disch := omega) only [jset_k, jset_j, jset_same])
               · intro p h0 h1
                 simp (disch := omega) only [jset_k, jset_j, jset_same] at h1
                 have h := hI.2.1.2.2.2.2.2.1 p h0 h1
                 simp (disch := omega) only [jset_k, jset_j, jset_same]
                 omega
               · exact hI.2.1.2.2.2.2.2.2.1.fr (by omega) (by simp (disch := omega) only [jset_k, jset_j, jset_same]) (fun i a b => by simp (disch := omega) only [jset_k, jset_j, jset_same])
               · exact hI.2.1.2.2.2.2.2.2.2.1.fr (by omega) (fun i a b => by simp (disch := omega) only [jset_k, jset_j, jset_same]) (fun i a b => by simp (disch := omega) only [jset_k, jset_j, jset_same]) (by simp (disch := omega) only [jset_k, jset_j, jset_same]; omega)
               · exact hI.2.1.2.2.2.2.2.2.2.2.1.fr (by omega) (fun i a b => by simp (disch := omega) only [jset_k, jset_j, jset_same])
               · exact hI.2.1.2.2.2.2.2.2.2.2.2.1.fr (fun i a b => by simp (disch := omega) only [jset_k, jset_j, jset_same])
               · exact hI.2.1.2.2.2.2.2.2.2.2.2.2.fr (fun i a b => by simp (disch := omega) only [jset_k, jset_j, jset_same])
             · refine ⟨?_, ?_, ?_, ?_, ?_, ?_, ?_, ?_, ?_, ?_, ?_, ?_⟩
               · have h := hC.cnt
                 unfold CCnt cv
                 simp (disch := omega) only [jset_k, jset_j, jset_same, Int.reduceAdd]
                 omega
               · exact hI.2.2.1.2.1.fr hI.2.1.2.1 (by omega) (fun k j a b => by show _ = M (1 + k) j; unfold cv; simp (disch := omega) only [jset_k, jset_j, jset_same]) (fun i a b => by simp (disch := omega) only [jset_k, jset_j, jset_same])
               · exact hI.2.2.1.2.2.1.fr hI.2.1.2.2.1 (by omega) (fun k j a b => by show _ = M (1 + k) j; unfold cv; simp (disch := omega) only [jset_k, jset_j, jset_same]) (fun i a b => by simp (disch := omega) only [jset_k, jset_j, jset_same])
               · exact hI.2.2.1.2.2.2.1.fr (by omega) (fun k j a b => by show _ = M (1 + k) j; unfold cv; simp (disch := omega) only [jset_k, jset_j, jset_same]) (fun i a b => by simp (disch := omega) only [jset_k, jset_j, jset_same])
               · exact hI.2.2.1.2.2.2.2.1.fr (by omega) (fun k j a b => by show _ = M (1 + k) j; unfold cv; simp (disch := omega) only [jset_k, jset_j, jset_same]) (fun i a b => by simp (disch := omega) only [jset_k, jset_j, jset_same]) (fun i a b => by simp (disch := omega) only [jset_k, jset_j, jset_same])
               · exact hI.2.2.1.2.2.2.2.2.1.fr (by omega) (fun k j a b => by show _ = M (1 + k) j; unfold cv; simp (disch := omega) only [jset_k, jset_j, jset_same]) (fun i a b => by simp (disch := omega) only [jset_k, jset_j, jset_same]) (fun i a b => by simp (disch := omega) only [jset_k, jset_j, jset_same])
               · exact hI.2.2.1.2.2.2.2.2.2.1.fr (by omega) (fun k j a b => by show _ = M (1 + k) j; unfold cv; simp (disch := omega) only [jset_k, jset_j, jset_same]) (fun i a b => by simp (disch := omega) only [jset_k, jset_j, jset_same]) (fun i a b => by simp (disch := omega) only [jset_k, jset_j, jset_same])
               · exact hI.2.2.1.2.2.2.2.2.2.2.1.fr (by omega) (fun k j a b => by show _ = M (1 + k) j; unfold cv; simp (disch := omega) only [jset_k, jset_j, jset_same]) (fun i a b => by simp (disch := omega) only [jset_k, jset_j, jset_same])
               · exact hI.2.2.1.2.2.2.2.2.2.2.2.1.fr (fun k j a b => by show _ = M (1 + k) j; unfold cv; simp (disch := omega) only [jset_k, jset_j, jset_same]) (fun i a b => by simp (disch := omega) only [jset_k, jset_j, jset_same])
               · exact hI.2.2.1.2.2.2.2.2.2.2.2.2.1.fr (fun k j a b => by show _ = M (1 + k) j; unfold cv; simp (disch := omega) only [jset_k, jset_j, jset_same]) (fun i a b => by simp (disch := omega) only [jset_k, jset_j, jset_same])
               · exact hI.2.2.1.2.2.2.2.2.2.2.2.2.2.1.fr (by omega) (fun k j a b => by show _ = M (1 + k) j; unfold cv; simp (disch := omega) only [jset_k, jset_j, jset_same]) (fun i a b => by simp (disch := omega) only [jset_k, jset_j, jset_same])
               · exact hI.2.2.1.2.2.2.2.2.2.2.2.2.2.2.fr hI.2.1.2.2.2.2.2.2.2.2.2.2 (fun k j a b => by show _ = M (1 + k) j; unfold cv; simp (disch := omega) only [jset_k, jset_j, jset_same]) (fun i a b => by simp (disch := omega) only [jset_k, jset_j, jset_same]))
      · skip
        refine e_bipush 38 dX12_weeks_36 (by decide) rfl ?_
        refine e_iret dX12_weeks_38 ?_
        exact ⟨by omega, hI⟩
    · dsimp only [jpush]
      refine e_if_ne 17 20 dX12_weeks_14 (by decide) (by decide) rfl (fun h => absurd h (by decide)) (fun _ => ?_)
      refine e_bipush 19 dX12_weeks_17 (by decide) rfl ?_
      refine e_iret dX12_weeks_19 ?_
      exact ⟨by omega, hI⟩

