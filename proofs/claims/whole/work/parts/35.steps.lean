/-! STEPS: a thing done in the class and the same done in the row -/
theorem cKill_in {M : jM} {p n t : Int} (h0 : 0 ≤ t) (h1 : t < n) : cKill M p n (144 + t) 3 = if M (144 + t) 0 = p then 0 else M (144 + t) 3 := by
  unfold cKill
  by_cases e : M (144 + t) 0 = p
  · rw [if_pos e, if_pos ⟨by omega, rfl, e⟩]
  · rw [if_neg e, if_neg (fun q => e q.2.2)]
theorem rKill_in {M : jM} {p n t : Int} (h0 : 0 ≤ t) (h1 : t < n) : rKill M p n 929 (1611 + t) = if M 929 (1311 + t) = p then 0 else M 929 (1611 + t) := by
  unfold rKill
  rw [show 1611 + t - 300 = 1311 + t by omega]
  by_cases e : M 929 (1311 + t) = p
  · rw [if_pos e, if_pos ⟨rfl, by omega, e⟩]
  · rw [if_neg e, if_neg (fun q => e q.2.2)]
theorem Live.ck {M M2 : jM} (h : Live M M2) {p n : Int} (hn : n ≤ 150) : Live M (cKill M2 p n) := fun k j a b c d => by
  rw [cKill_o (by omega)]
  exact h k j a b c d
theorem Live.rk {M M2 : jM} (h : Live M M2) {p n : Int} (hn : n ≤ 150) : Live M (rKill M2 p n) := fun k j a b c d => by
  rw [rKill_o (by omega)]
  exact h k j a b c d
theorem step_kill {M : jM} (hI : Inv M) {p n n2 : Int} (e1 : n = M 929 1310) (e2 : n2 = M 929 1310) : Inv (rKill (cKill M p n) p n2) := by
  have hC := hI.cr
  have hn := hC.cnt
  have hg := hC.rng
  subst e1
  rw [e2]
  refine hI.live ?_ ?_ ?_
  · repeat (first | exact Live.rf | refine Live.c ?_ (by omega) | refine Live.r ?_ (by omega) | refine Live.s ?_ (by omega) | refine Live.ck ?_ (by omega) | refine Live.rk ?_ (by omega))
  · refine ⟨?_, ?_, ?_, ?_, ?_, ?_, ?_, ?_, ?_, ?_, ?_⟩
    · exact hI.2.1.1.fr (fun i hi => by simp (disch := omega) only [jset_k, jset_j, jset_same, true_and, and_true, cKill_o, rKill_o])
    · exact hI.2.1.2.1.fr (fun i a b => by simp (disch := omega) only [jset_k, jset_j, jset_same, true_and, and_true, cKill_o, rKill_o])
    · exact hI.2.1.2.2.1.fr (fun i a b => by simp (disch := omega) only [jset_k, jset_j, jset_same, true_and, and_true, cKill_o, rKill_o])
    · exact hI.2.1.2.2.2.1.fr (by omega) (fun i a b => by simp (disch := omega) only [jset_k, jset_j, jset_same, true_and, and_true, cKill_o, rKill_o])
    · exact hI.2.1.2.2.2.2.1.fr (by omega) (fun i a b => by simp (disch := omega) only [jset_k, jset_j, jset_same, true_and, and_true, cKill_o, rKill_o]) (fun i a b => by simp (disch := omega) only [jset_k, jset_j, jset_same, true_and, and_true, cKill_o, rKill_o])
    · exact hI.2.1.2.2.2.2.2.1.fr (by omega) (fun i a b => by simp (disch := omega) only [jset_k, jset_j, jset_same, true_and, and_true, cKill_o, rKill_o]) (fun i a b => by simp (disch := omega) only [jset_k, jset_j, jset_same, true_and, and_true, cKill_o, rKill_o]) (by simp (disch := omega) only [jset_k, jset_j, jset_same, true_and, and_true, cKill_o, rKill_o]; omega)
    · exact hI.2.1.2.2.2.2.2.2.1.fr (by omega) (by simp (disch := omega) only [jset_k, jset_j, jset_same, true_and, and_true, cKill_o, rKill_o]) (fun i a b => by simp (disch := omega) only [jset_k, jset_j, jset_same, true_and, and_true, cKill_o, rKill_o])
    · intro t h0 h1
      simp (disch := omega) only [jset_k, jset_j, jset_same, true_and, and_true, cKill_o, rKill_o] at h1
      have h := hI.2.1.2.2.2.2.2.2.2.1 t h0 h1
      rw [rKill_in h0 h1]
      simp (disch := omega) only [jset_k, jset_j, jset_same, true_and, and_true, cKill_o, rKill_o]
      split <;> omega
    · exact hI.2.1.2.2.2.2.2.2.2.2.1.fr (by omega) (fun i a b => by simp (disch := omega) only [jset_k, jset_j, jset_same, true_and, and_true, cKill_o, rKill_o])
    · exact hI.2.1.2.2.2.2.2.2.2.2.2.1.fr (fun i a b => by simp (disch := omega) only [jset_k, jset_j, jset_same, true_and, and_true, cKill_o, rKill_o])
    · exact hI.2.1.2.2.2.2.2.2.2.2.2.2.fr (fun i a b => by simp (disch := omega) only [jset_k, jset_j, jset_same, true_and, and_true, cKill_o, rKill_o])
  · refine ⟨?_, ?_, ?_, ?_, ?_, ?_, ?_, ?_, ?_, ?_, ?_, ?_⟩
    · exact hI.2.2.1.1.fr (fun j => by show _ = M (1 + 0) j; unfold cv; simp (disch := omega) only [jset_k, jset_j, jset_same, true_and, and_true, cKill_o, rKill_o]) (fun i hi => by simp (disch := omega) only [jset_k, jset_j, jset_same, true_and, and_true, cKill_o, rKill_o])
    · exact hI.2.2.1.2.1.fr hI.2.1.2.1 (by omega) (fun k j a b => by show _ = M (1 + k) j; unfold cv; simp (disch := omega) only [jset_k, jset_j, jset_same, true_and, and_true, cKill_o, rKill_o]) (fun i a b => by simp (disch := omega) only [jset_k, jset_j, jset_same, true_and, and_true, cKill_o, rKill_o])
    · exact hI.2.2.1.2.2.1.fr hI.2.1.2.2.1 (by omega) (fun k j a b => by show _ = M (1 + k) j; unfold cv; simp (disch := omega) only [jset_k, jset_j, jset_same, true_and, and_true, cKill_o, rKill_o]) (fun i a b => by simp (disch := omega) only [jset_k, jset_j, jset_same, true_and, and_true, cKill_o, rKill_o])
    · exact hI.2.2.1.2.2.2.1.fr (by omega) (fun k j a b => by show _ = M (1 + k) j; unfold cv; simp (disch := omega) only [jset_k, jset_j, jset_same, true_and, and_true, cKill_o, rKill_o]) (fun i a b => by simp (disch := omega) only [jset_k, jset_j, jset_same, true_and, and_true, cKill_o, rKill_o])
    · exact hI.2.2.1.2.2.2.2.1.fr (by omega) (fun k j a b => by show _ = M (1 + k) j; unfold cv; simp (disch := omega) only [jset_k, jset_j, jset_same, true_and, and_true, cKill_o, rKill_o]) (fun i a b => by simp (disch := omega) only [jset_k, jset_j, jset_same, true_and, and_true, cKill_o, rKill_o]) (fun i a b => by simp (disch := omega) only [jset_k, jset_j, jset_same, true_and, and_true, cKill_o, rKill_o])
    · exact hI.2.2.1.2.2.2.2.2.1.fr (by omega) (fun k j a b => by show _ = M (1 + k) j; unfold cv; simp (disch := omega) only [jset_k, jset_j, jset_same, true_and, and_true, cKill_o, rKill_o]) (fun i a b => by simp (disch := omega) only [jset_k, jset_j, jset_same, true_and, and_true, cKill_o, rKill_o]) (fun i a b => by simp (disch := omega) only [jset_k, jset_j, jset_same, true_and, and_true, cKill_o, rKill_o])
    · intro t h0 h1
      simp (disch := omega) only [jset_k, jset_j, jset_same, true_and, and_true, cKill_o, rKill_o] at h1
      simp only [cv1, Int.reduceAdd]
      have h := (hC.tk h0 h1).1
      rw [rKill_in h0 h1, rKill_o (k := 144 + t) (j := 3) (by omega), cKill_in h0 h1]
      simp (disch := omega) only [jset_k, jset_j, jset_same, true_and, and_true, cKill_o, rKill_o]
      rw [h.1]
      exact ⟨by omega, by omega, by omega, by rw [h.2.2.2]⟩
    · exact hI.2.2.1.2.2.2.2.2.2.2.1.fr (by omega) (fun k j a b => by show _ = M (1 + k) j; unfold cv; simp (disch := omega) only [jset_k, jset_j, jset_same, true_and, and_true, cKill_o, rKill_o]) (fun i a b => by simp (disch := omega) only [jset_k, jset_j, jset_same, true_and, and_true, cKill_o, rKill_o])
    · exact hI.2.2.1.2.2.2.2.2.2.2.2.1.fr (fun k j a b => by show _ = M (1 + k) j; unfold cv; simp (disch := omega) only [jset_k, jset_j, jset_same, true_and, and_true, cKill_o, rKill_o]) (fun i a b => by simp (disch := omega) only [jset_k, jset_j, jset_same, true_and, and_true, cKill_o, rKill_o])
    · exact hI.2.2.1.2.2.2.2.2.2.2.2.2.1.fr (fun k j a b => by show _ = M (1 + k) j; unfold cv; simp (disch := omega) only [jset_k, jset_j, jset_same, true_and, and_true, cKill_o, rKill_o]) (fun i a b => by simp (disch := omega) only [jset_k, jset_j, jset_same, true_and, and_true, cKill_o, rKill_o])
    · exact hI.2.2.1.2.2.2.2.2.2.2.2.2.2.1.fr (by omega) (fun k j a b => by show _ = M (1 + k) j; unfold cv; simp (disch := omega) only [jset_k, jset_j, jset_same, true_and, and_true, cKill_o, rKill_o]) (fun i a b => by simp (disch := omega) only [jset_k, jset_j, jset_same, true_and, and_true, cKill_o, rKill_o])
    · exact hI.2.2.1.2.2.2.2.2.2.2.2.2.2.2.fr hI.2.1.2.2.2.2.2.2.2.2.2.2 (fun k j a b => by show _ = M (1 + k) j; unfold cv; simp (disch := omega) only [jset_k, jset_j, jset_same, true_and, and_true, cKill_o, rKill_o]) (fun i a b => by simp (disch := omega) only [jset_k, jset_j, jset_same, true_and, and_true, cKill_o, rKill_o])
theorem step_give {M : jM} (hI : Inv M) {p q : Int} (ht : M 929 1310 < 150) (hp : 0 ≤ p ∧ p < M 929 709) (hq : 0 ≤ q ∧ q < M 929 643) : Inv (rGive (cGive M p q) p q) := by
  have hC := hI.cr
  have hn := hC.cnt
  have hg := hC.rng
  unfold rGive cGive
  rw [hn.2.2.2.1, hn.2.2.2.2.2.2.2.1]
  simp (disch := omega) only [jset_k, jset_j, jset_same, true_and, and_true]
  refine hI.live ?_ ?_ ?_
  · repeat (first | exact Live.rf | refine Live.c ?_ (by omega) | refine Live.r ?_ (by omega) | refine Live.s ?_ (by omega))
  · refine ⟨?_, ?_, ?_, ?_, ?_, ?_, ?_, ?_, ?_, ?_, ?_⟩
    · have h := hI.2.1.1
      unfold RCnt at h ⊢
      simp (disch := omega) only [jset_k, jset_j, jset_same, true_and, and_true]
      omega
    · exact hI.2.1.2.1.fr (fun i a b => by simp (disch := omega) only [jset_k, jset_j, jset_same, true_and, and_true])
    · exact hI.2.1.2.2.1.fr (fun i a b => by simp (disch := omega) only [jset_k, jset_j, jset_same, true_and, and_true])
    · exact hI.2.1.2.2.2.1.fr (by omega) (fun i a b => by simp (disch := omega) only [jset_k, jset_j, jset_same, true_and, and_true])
    · exact hI.2.1.2.2.2.2.1.fr (by omega) (fun i a b => by simp (disch := omega) only [jset_k, jset_j, jset_same, true_and, and_true]) (fun i a b => by simp (disch := omega) only [jset_k, jset_j, jset_same, true_and, and_true])
    · exact hI.2.1.2.2.2.2.2.1.fr (by omega) (fun i a b => by simp (disch := omega) only [jset_k, jset_j, jset_same, true_and, and_true]) (fun i a b => by simp (disch := omega) only [jset_k, jset_j, jset_same, true_and, and_true]) (by simp (disch := omega) only [jset_k, jset_j, jset_same, true_and, and_true]; omega)
    · exact hI.2.1.2.2.2.2.2.2.1.fr (by omega) (by simp (disch := omega) only [jset_k, jset_j, jset_same, true_and, and_true]) (fun i a b => by simp (disch := omega) only [jset_k, jset_j, jset_same, true_and, and_true])
    · intro k h0 h1
      simp (disch := omega) only [jset_k, jset_j, jset_same, true_and, and_true] at h1
      by_cases e : k < M 929 1310
      · have h := hI.2.1.2.2.2.2.2.2.2.1 k h0 e
        simp (disch := omega) only [jset_k, jset_j, jset_same, true_and, and_true]
        exact h
      · have e2 : k = M 929 1310 := by omega
        subst e2
        simp (disch := omega) only [jset_k, jset_j, jset_same, true_and, and_true]
        omega
    · exact hI.2.1.2.2.2.2.2.2.2.2.1.fr (by omega) (fun i a b => by simp (disch := omega) only [jset_k, jset_j, jset_same, true_and, and_true])
    · exact hI.2.1.2.2.2.2.2.2.2.2.2.1.fr (fun i a b => by simp (disch := omega) only [jset_k, jset_j, jset_same, true_and, and_true])
    · exact hI.2.1.2.2.2.2.2.2.2.2.2.2.fr (fun i a b => by simp (disch := omega) only [jset_k, jset_j, jset_same, true_and, and_true])
  · refine ⟨?_, ?_, ?_, ?_, ?_, ?_, ?_, ?_, ?_, ?_, ?_, ?_⟩
    · have h := hC.cnt
      unfold CCnt cv
      simp (disch := omega) only [jset_k, jset_j, jset_same, true_and, and_true, Int.reduceAdd]
      first | omega | exact h
    · exact hI.2.2.1.2.1.fr hI.2.1.2.1 (by omega) (fun k j a b => by show _ = M (1 + k) j; unfold cv; simp (disch := omega) only [jset_k, jset_j, jset_same, true_and, and_true]) (fun i a b => by simp (disch := omega) only [jset_k, jset_j, jset_same, true_and, and_true])
    · exact hI.2.2.1.2.2.1.fr hI.2.1.2.2.1 (by omega) (fun k j a b => by show _ = M (1 + k) j; unfold cv; simp (disch := omega) only [jset_k, jset_j, jset_same, true_and, and_true]) (fun i a b => by simp (disch := omega) only [jset_k, jset_j, jset_same, true_and, and_true])
    · exact hI.2.2.1.2.2.2.1.fr (by omega) (fun k j a b => by show _ = M (1 + k) j; unfold cv; simp (disch := omega) only [jset_k, jset_j, jset_same, true_and, and_true]) (fun i a b => by simp (disch := omega) only [jset_k, jset_j, jset_same, true_and, and_true])
    · exact hI.2.2.1.2.2.2.2.1.fr (by omega) (fun k j a b => by show _ = M (1 + k) j; unfold cv; simp (disch := omega) only [jset_k, jset_j, jset_same, true_and, and_true]) (fun i a b => by simp (disch := omega) only [jset_k, jset_j, jset_same, true_and, and_true]) (fun i a b => by simp (disch := omega) only [jset_k, jset_j, jset_same, true_and, and_true])
    · exact hI.2.2.1.2.2.2.2.2.1.fr (by omega) (fun k j a b => by show _ = M (1 + k) j; unfold cv; simp (disch := omega) only [jset_k, jset_j, jset_same, true_and, and_true]) (fun i a b => by simp (disch := omega) only [jset_k, jset_j, jset_same, true_and, and_true]) (fun i a b => by simp (disch := omega) only [jset_k, jset_j, jset_same, true_and, and_true])
    · intro k h0 h1
      simp (disch := omega) only [jset_k, jset_j, jset_same, true_and, and_true] at h1
      simp only [cv1, Int.reduceAdd]
      by_cases e : k < M 929 1310
      · have h := (hC.tk h0 e).1
        simp (disch := omega) only [jset_k, jset_j, jset_same, true_and, and_true]
        exact h
      · have e2 : k = M 929 1310 := by omega
        subst e2
        simp (disch := omega) only [jset_k, jset_j, jset_same, true_and, and_true]
        all_goals (first | omega | simp)
    · exact hI.2.2.1.2.2.2.2.2.2.2.1.fr (by omega) (fun k j a b => by show _ = M (1 + k) j; unfold cv; simp (disch := omega) only [jset_k, jset_j, jset_same, true_and, and_true]) (fun i a b => by simp (disch := omega) only [jset_k, jset_j, jset_same, true_and, and_true])
    · exact hI.2.2.1.2.2.2.2.2.2.2.2.1.fr (fun k j a b => by show _ = M (1 + k) j; unfold cv; simp (disch := omega) only [jset_k, jset_j, jset_same, true_and, and_true]) (fun i a b => by simp (disch := omega) only [jset_k, jset_j, jset_same, true_and, and_true])
    · exact hI.2.2.1.2.2.2.2.2.2.2.2.2.1.fr (fun k j a b => by show _ = M (1 + k) j; unfold cv; simp (disch := omega) only [jset_k, jset_j, jset_same, true_and, and_true]) (fun i a b => by simp (disch := omega) only [jset_k, jset_j, jset_same, true_and, and_true])
    · exact hI.2.2.1.2.2.2.2.2.2.2.2.2.2.1.fr (by omega) (fun k j a b => by show _ = M (1 + k) j; unfold cv; simp (disch := omega) only [jset_k, jset_j, jset_same, true_and, and_true]) (fun i a b => by simp (disch := omega) only [jset_k, jset_j, jset_same, true_and, and_true])
    · exact hI.2.2.1.2.2.2.2.2.2.2.2.2.2.2.fr hI.2.1.2.2.2.2.2.2.2.2.2.2 (fun k j a b => by show _ = M (1 + k) j; unfold cv; simp (disch := omega) only [jset_k, jset_j, jset_same, true_and, and_true]) (fun i a b => by simp (disch := omega) only [jset_k, jset_j, jset_same, true_and, and_true])
theorem step_purse {M : jM} (hI : Inv M) {q v v2 : Int} (hq : 0 ≤ q ∧ q < M 929 643) (e : v = v2) : Inv (jset (jset M (68 + q) 3 v) 929 (692 + q) v2) := by
  have hC := hI.cr
  have hn := hC.cnt
  have hg := hC.rng
  subst e
  refine hI.live ?_ ?_ ?_
  · repeat (first | exact Live.rf | refine Live.c ?_ (by omega) | refine Live.r ?_ (by omega) | refine Live.s ?_ (by omega))
  · refine ⟨?_, ?_, ?_, ?_, ?_, ?_, ?_, ?_, ?_, ?_, ?_⟩
    · exact hI.2.1.1.fr (fun i hi => by simp (disch := omega) only [jset_k, jset_j, jset_same, true_and, and_true])
    · exact hI.2.1.2.1.fr (fun i a b => by simp (disch := omega) only [jset_k, jset_j, jset_same, true_and, and_true])
    · exact hI.2.1.2.2.1.fr (fun i a b => by simp (disch := omega) only [jset_k, jset_j, jset_same, true_and, and_true])
    · exact hI.2.1.2.2.2.1.fr (by omega) (fun i a b => by simp (disch := omega) only [jset_k, jset_j, jset_same, true_and, and_true])
    · exact hI.2.1.2.2.2.2.1.fr (by omega) (fun i a b => by simp (disch := omega) only [jset_k, jset_j, jset_same, true_and, and_true]) (fun i a b => by simp (disch := omega) only [jset_k, jset_j, jset_same, true_and, and_true])
    · exact hI.2.1.2.2.2.2.2.1.fr (by omega) (fun i a b => by simp (disch := omega) only [jset_k, jset_j, jset_same, true_and, and_true]) (fun i a b => by simp (disch := omega) only [jset_k, jset_j, jset_same, true_and, and_true]) (by simp (disch := omega) only [jset_k, jset_j, jset_same, true_and, and_true]; omega)
    · exact hI.2.1.2.2.2.2.2.2.1.fr (by omega) (by simp (disch := omega) only [jset_k, jset_j, jset_same, true_and, and_true]) (fun i a b => by simp (disch := omega) only [jset_k, jset_j, jset_same, true_and, and_true])
    · exact hI.2.1.2.2.2.2.2.2.2.1.fr (by omega) (fun i a b => by simp (disch := omega) only [jset_k, jset_j, jset_same, true_and, and_true]) (fun i a b => by simp (disch := omega) only [jset_k, jset_j, jset_same, true_and, and_true]) (by simp (disch := omega) only [jset_k, jset_j, jset_same, true_and, and_true]; omega)
    · exact hI.2.1.2.2.2.2.2.2.2.2.1.fr (by omega) (fun i a b => by simp (disch := omega) only [jset_k, jset_j, jset_same, true_and, and_true])
    · exact hI.2.1.2.2.2.2.2.2.2.2.2.1.fr (fun i a b => by simp (disch := omega) only [jset_k, jset_j, jset_same, true_and, and_true])
    · exact hI.2.1.2.2.2.2.2.2.2.2.2.2.fr (fun i a b => by simp (disch := omega) only [jset_k, jset_j, jset_same, true_and, and_true])
  · refine ⟨?_, ?_, ?_, ?_, ?_, ?_, ?_, ?_, ?_, ?_, ?_, ?_⟩
    · exact hI.2.2.1.1.fr (fun j => by show _ = M (1 + 0) j; unfold cv; simp (disch := omega) only [jset_k, jset_j, jset_same, true_and, and_true]) (fun i hi => by simp (disch := omega) only [jset_k, jset_j, jset_same, true_and, and_true])
    · exact hI.2.2.1.2.1.fr hI.2.1.2.1 (by omega) (fun k j a b => by show _ = M (1 + k) j; unfold cv; simp (disch := omega) only [jset_k, jset_j, jset_same, true_and, and_true]) (fun i a b => by simp (disch := omega) only [jset_k, jset_j, jset_same, true_and, and_true])
    · exact hI.2.2.1.2.2.1.fr hI.2.1.2.2.1 (by omega) (fun k j a b => by show _ = M (1 + k) j; unfold cv; simp (disch := omega) only [jset_k, jset_j, jset_same, true_and, and_true]) (fun i a b => by simp (disch := omega) only [jset_k, jset_j, jset_same, true_and, and_true])
    · exact hI.2.2.1.2.2.2.1.fr (by omega) (fun k j a b => by show _ = M (1 + k) j; unfold cv; simp (disch := omega) only [jset_k, jset_j, jset_same, true_and, and_true]) (fun i a b => by simp (disch := omega) only [jset_k, jset_j, jset_same, true_and, and_true])
    · intro k h0 h1
      simp (disch := omega) only [jset_k, jset_j, jset_same, true_and, and_true] at h1
      simp only [cv1, Int.reduceAdd]
      have h := (hC.pers h0 h1).1
      by_cases e : k = q
      · subst e
        simp (disch := omega) only [jset_k, jset_j, jset_same, true_and, and_true]
        omega
      · simp (disch := omega) only [jset_k, jset_j, jset_same, true_and, and_true]
        exact h
    · exact hI.2.2.1.2.2.2.2.2.1.fr (by omega) (fun k j a b => by show _ = M (1 + k) j; unfold cv; simp (disch := omega) only [jset_k, jset_j, jset_same, true_and, and_true]) (fun i a b => by simp (disch := omega) only [jset_k, jset_j, jset_same, true_and, and_true]) (fun i a b => by simp (disch := omega) only [jset_k, jset_j, jset_same, true_and, and_true])
    · exact hI.2.2.1.2.2.2.2.2.2.1.fr (by omega) (fun k j a b => by show _ = M (1 + k) j; unfold cv; simp (disch := omega) only [jset_k, jset_j, jset_same, true_and, and_true]) (fun i a b => by simp (disch := omega) only [jset_k, jset_j, jset_same, true_and, and_true]) (fun i a b => by simp (disch := omega) only [jset_k, jset_j, jset_same, true_and, and_true])
    · exact hI.2.2.1.2.2.2.2.2.2.2.1.fr (by omega) (fun k j a b => by show _ = M (1 + k) j; unfold cv; simp (disch := omega) only [jset_k, jset_j, jset_same, true_and, and_true]) (fun i a b => by simp (disch := omega) only [jset_k, jset_j, jset_same, true_and, and_true])
    · exact hI.2.2.1.2.2.2.2.2.2.2.2.1.fr (fun k j a b => by show _ = M (1 + k) j; unfold cv; simp (disch := omega) only [jset_k, jset_j, jset_same, true_and, and_true]) (fun i a b => by simp (disch := omega) only [jset_k, jset_j, jset_same, true_and, and_true])
    · exact hI.2.2.1.2.2.2.2.2.2.2.2.2.1.fr (fun k j a b => by show _ = M (1 + k) j; unfold cv; simp (disch := omega) only [jset_k, jset_j, jset_same, true_and, and_true]) (fun i a b => by simp (disch := omega) only [jset_k, jset_j, jset_same, true_and, and_true])
    · exact hI.2.2.1.2.2.2.2.2.2.2.2.2.2.1.fr (by omega) (fun k j a b => by show _ = M (1 + k) j; unfold cv; simp (disch := omega) only [jset_k, jset_j, jset_same, true_and, and_true]) (fun i a b => by simp (disch := omega) only [jset_k, jset_j, jset_same, true_and, and_true])
    · exact hI.2.2.1.2.2.2.2.2.2.2.2.2.2.2.fr hI.2.1.2.2.2.2.2.2.2.2.2.2 (fun k j a b => by show _ = M (1 + k) j; unfold cv; simp (disch := omega) only [jset_k, jset_j, jset_same, true_and, and_true]) (fun i a b => by simp (disch := omega) only [jset_k, jset_j, jset_same, true_and, and_true])
theorem step_book {M : jM} (hI : Inv M) {b w v v2 : Int} (hb : 0 ≤ b ∧ b < 6) (hw : 0 ≤ w ∧ w < 301) (e : v = v2) : Inv (jset (jset M (32 + b) w v) 929 (1782 + 301 * b + w) v2) := by
  have hC := hI.cr
  have hn := hC.cnt
  have hg := hC.rng
  subst e
  refine hI.live ?_ ?_ ?_
  · repeat (first | exact Live.rf | refine Live.c ?_ (by omega) | refine Live.r ?_ (by omega) | refine Live.s ?_ (by omega))
  · refine ⟨?_, ?_, ?_, ?_, ?_, ?_, ?_, ?_, ?_, ?_, ?_⟩
    · exact hI.2.1.1.fr (fun i hi => by simp (disch := omega) only [jset_k, jset_j, jset_same, true_and, and_true])
    · exact hI.2.1.2.1.fr (fun i a b => by simp (disch := omega) only [jset_k, jset_j, jset_same, true_and, and_true])
    · exact hI.2.1.2.2.1.fr (fun i a b => by simp (disch := omega) only [jset_k, jset_j, jset_same, true_and, and_true])
    · exact hI.2.1.2.2.2.1.fr (by omega) (fun i a b => by simp (disch := omega) only [jset_k, jset_j, jset_same, true_and, and_true])
    · exact hI.2.1.2.2.2.2.1.fr (by omega) (fun i a b => by simp (disch := omega) only [jset_k, jset_j, jset_same, true_and, and_true]) (fun i a b => by simp (disch := omega) only [jset_k, jset_j, jset_same, true_and, and_true])
    · exact hI.2.1.2.2.2.2.2.1.fr (by omega) (fun i a b => by simp (disch := omega) only [jset_k, jset_j, jset_same, true_and, and_true]) (fun i a b => by simp (disch := omega) only [jset_k, jset_j, jset_same, true_and, and_true]) (by simp (disch := omega) only [jset_k, jset_j, jset_same, true_and, and_true]; omega)
    · exact hI.2.1.2.2.2.2.2.2.1.fr (by omega) (by simp (disch := omega) only [jset_k, jset_j, jset_same, true_and, and_true]) (fun i a b => by simp (disch := omega) only [jset_k, jset_j, jset_same, true_and, and_true])
    · exact hI.2.1.2.2.2.2.2.2.2.1.fr (by omega) (fun i a b => by simp (disch := omega) only [jset_k, jset_j, jset_same, true_and, and_true]) (fun i a b => by simp (disch := omega) only [jset_k, jset_j, jset_same, true_and, and_true]) (by simp (disch := omega) only [jset_k, jset_j, jset_same, true_and, and_true]; omega)
    · exact hI.2.1.2.2.2.2.2.2.2.2.1.fr (by omega) (fun i a b => by simp (disch := omega) only [jset_k, jset_j, jset_same, true_and, and_true])
    · exact hI.2.1.2.2.2.2.2.2.2.2.2.1.fr (fun i a b => by simp (disch := omega) only [jset_k, jset_j, jset_same, true_and, and_true])
    · exact hI.2.1.2.2.2.2.2.2.2.2.2.2.fr (fun i a b => by simp (disch := omega) only [jset_k, jset_j, jset_same, true_and, and_true])
  · refine ⟨?_, ?_, ?_, ?_, ?_, ?_, ?_, ?_, ?_, ?_, ?_, ?_⟩
    · exact hI.2.2.1.1.fr (fun j => by show _ = M (1 + 0) j; unfold cv; simp (disch := omega) only [jset_k, jset_j, jset_same, true_and, and_true]) (fun i hi => by simp (disch := omega) only [jset_k, jset_j, jset_same, true_and, and_true])
    · exact hI.2.2.1.2.1.fr hI.2.1.2.1 (by omega) (fun k j a b => by show _ = M (1 + k) j; unfold cv; simp (disch := omega) only [jset_k, jset_j, jset_same, true_and, and_true]) (fun i a b => by simp (disch := omega) only [jset_k, jset_j, jset_same, true_and, and_true])
    · exact hI.2.2.1.2.2.1.fr hI.2.1.2.2.1 (by omega) (fun k j a b => by show _ = M (1 + k) j; unfold cv; simp (disch := omega) only [jset_k, jset_j, jset_same, true_and, and_true]) (fun i a b => by simp (disch := omega) only [jset_k, jset_j, jset_same, true_and, and_true])
    · exact hI.2.2.1.2.2.2.1.fr (by omega) (fun k j a b => by show _ = M (1 + k) j; unfold cv; simp (disch := omega) only [jset_k, jset_j, jset_same, true_and, and_true]) (fun i a b => by simp (disch := omega) only [jset_k, jset_j, jset_same, true_and, and_true])
    · exact hI.2.2.1.2.2.2.2.1.fr (by omega) (fun k j a b => by show _ = M (1 + k) j; unfold cv; simp (disch := omega) only [jset_k, jset_j, jset_same, true_and, and_true]) (fun i a b => by simp (disch := omega) only [jset_k, jset_j, jset_same, true_and, and_true]) (fun i a b => by simp (disch := omega) only [jset_k, jset_j, jset_same, true_and, and_true])
    · exact hI.2.2.1.2.2.2.2.2.1.fr (by omega) (fun k j a b => by show _ = M (1 + k) j; unfold cv; simp (disch := omega) only [jset_k, jset_j, jset_same, true_and, and_true]) (fun i a b => by simp (disch := omega) only [jset_k, jset_j, jset_same, true_and, and_true]) (fun i a b => by simp (disch := omega) only [jset_k, jset_j, jset_same, true_and, and_true])
    · exact hI.2.2.1.2.2.2.2.2.2.1.fr (by omega) (fun k j a b => by show _ = M (1 + k) j; unfold cv; simp (disch := omega) only [jset_k, jset_j, jset_same, true_and, and_true]) (fun i a b => by simp (disch := omega) only [jset_k, jset_j, jset_same, true_and, and_true]) (fun i a b => by simp (disch := omega) only [jset_k, jset_j, jset_same, true_and, and_true])
    · exact hI.2.2.1.2.2.2.2.2.2.2.1.fr (by omega) (fun k j a b => by show _ = M (1 + k) j; unfold cv; simp (disch := omega) only [jset_k, jset_j, jset_same, true_and, and_true]) (fun i a b => by simp (disch := omega) only [jset_k, jset_j, jset_same, true_and, and_true])
    · intro k h0 h1
      simp only [cv, Int.reduceAdd]
      have h := hC.bk h0 h1
      have q : b = 0 ∨ b = 1 ∨ b = 2 ∨ b = 3 ∨ b = 4 ∨ b = 5 := by omega
      rcases q with q | q | q | q | q | q <;> subst q <;> simp only [Int.reduceAdd, Int.reduceMul] <;> by_cases e : k = w <;> (try subst e) <;> simp (disch := omega) only [jset_k, jset_j, jset_same, true_and, and_true] <;> first | omega | exact h
    · exact hI.2.2.1.2.2.2.2.2.2.2.2.2.1.fr (fun k j a b => by show _ = M (1 + k) j; unfold cv; simp (disch := omega) only [jset_k, jset_j, jset_same, true_and, and_true]) (fun i a b => by simp (disch := omega) only [jset_k, jset_j, jset_same, true_and, and_true])
    · exact hI.2.2.1.2.2.2.2.2.2.2.2.2.2.1.fr (by omega) (fun k j a b => by show _ = M (1 + k) j; unfold cv; simp (disch := omega) only [jset_k, jset_j, jset_same, true_and, and_true]) (fun i a b => by simp (disch := omega) only [jset_k, jset_j, jset_same, true_and, and_true])
    · exact hI.2.2.1.2.2.2.2.2.2.2.2.2.2.2.fr hI.2.1.2.2.2.2.2.2.2.2.2.2 (fun k j a b => by show _ = M (1 + k) j; unfold cv; simp (disch := omega) only [jset_k, jset_j, jset_same, true_and, and_true]) (fun i a b => by simp (disch := omega) only [jset_k, jset_j, jset_same, true_and, and_true])
theorem step_live {M : jM} (hI : Inv M) {t : Int} (ht : 0 ≤ t ∧ t < M 929 1310) : Inv (jset (jset M (144 + t) 3 0) 929 (1611 + t) 0) := by
  have hC := hI.cr
  have hn := hC.cnt
  have hg := hC.rng
  refine hI.live ?_ ?_ ?_
  · repeat (first | exact Live.rf | refine Live.c ?_ (by omega) | refine Live.r ?_ (by omega) | refine Live.s ?_ (by omega))
  · refine ⟨?_, ?_, ?_, ?_, ?_, ?_, ?_, ?_, ?_, ?_, ?_⟩
    · exact hI.2.1.1.fr (fun i hi => by simp (disch := omega) only [jset_k, jset_j, jset_same, true_and, and_true])
    · exact hI.2.1.2.1.fr (fun i a b => by simp (disch := omega) only [jset_k, jset_j, jset_same, true_and, and_true])
    · exact hI.2.1.2.2.1.fr (fun i a b => by simp (disch := omega) only [jset_k, jset_j, jset_same, true_and, and_true])
    · exact hI.2.1.2.2.2.1.fr (by omega) (fun i a b => by simp (disch := omega) only [jset_k, jset_j, jset_same, true_and, and_true])
    · exact hI.2.1.2.2.2.2.1.fr (by omega) (fun i a b => by simp (disch := omega) only [jset_k, jset_j, jset_same, true_and, and_true]) (fun i a b => by simp (disch := omega) only [jset_k, jset_j, jset_same, true_and, and_true])
    · exact hI.2.1.2.2.2.2.2.1.fr (by omega) (fun i a b => by simp (disch := omega) only [jset_k, jset_j, jset_same, true_and, and_true]) (fun i a b => by simp (disch := omega) only [jset_k, jset_j, jset_same, true_and, and_true]) (by simp (disch := omega) only [jset_k, jset_j, jset_same, true_and, and_true]; omega)
    · exact hI.2.1.2.2.2.2.2.2.1.fr (by omega) (by simp (disch := omega) only [jset_k, jset_j, jset_same, true_and, and_true]) (fun i a b => by simp (disch := omega) only [jset_k, jset_j, jset_same, true_and, and_true])
    · intro k h0 h1
      simp (disch := omega) only [jset_k, jset_j, jset_same, true_and, and_true] at h1
      have h := hI.2.1.2.2.2.2.2.2.2.1 k h0 h1
      by_cases e : k = t
      · subst e
        simp (disch := omega) only [jset_k, jset_j, jset_same, true_and, and_true]
        omega
      · simp (disch := omega) only [jset_k, jset_j, jset_same, true_and, and_true]
        exact h
    · exact hI.2.1.2.2.2.2.2.2.2.2.1.fr (by omega) (fun i a b => by simp (disch := omega) only [jset_k, jset_j, jset_same, true_and, and_true])
    · exact hI.2.1.2.2.2.2.2.2.2.2.2.1.fr (fun i a b => by simp (disch := omega) only [jset_k, jset_j, jset_same, true_and, and_true])
    · exact hI.2.1.2.2.2.2.2.2.2.2.2.2.fr (fun i a b => by simp (disch := omega) only [jset_k, jset_j, jset_same, true_and, and_true])
  · refine ⟨?_, ?_, ?_, ?_, ?_, ?_, ?_, ?_, ?_, ?_, ?_, ?_⟩
    · exact hI.2.2.1.1.fr (fun j => by show _ = M (1 + 0) j; unfold cv; simp (disch := omega) only [jset_k, jset_j, jset_same, true_and, and_true]) (fun i hi => by simp (disch := omega) only [jset_k, jset_j, jset_same, true_and, and_true])
    · exact hI.2.2.1.2.1.fr hI.2.1.2.1 (by omega) (fun k j a b => by show _ = M (1 + k) j; unfold cv; simp (disch := omega) only [jset_k, jset_j, jset_same, true_and, and_true]) (fun i a b => by simp (disch := omega) only [jset_k, jset_j, jset_same, true_and, and_true])
    · exact hI.2.2.1.2.2.1.fr hI.2.1.2.2.1 (by omega) (fun k j a b => by show _ = M (1 + k) j; unfold cv; simp (disch := omega) only [jset_k, jset_j, jset_same, true_and, and_true]) (fun i a b => by simp (disch := omega) only [jset_k, jset_j, jset_same, true_and, and_true])
    · exact hI.2.2.1.2.2.2.1.fr (by omega) (fun k j a b => by show _ = M (1 + k) j; unfold cv; simp (disch := omega) only [jset_k, jset_j, jset_same, true_and, and_true]) (fun i a b => by simp (disch := omega) only [jset_k, jset_j, jset_same, true_and, and_true])
    · exact hI.2.2.1.2.2.2.2.1.fr (by omega) (fun k j a b => by show _ = M (1 + k) j; unfold cv; simp (disch := omega) only [jset_k, jset_j, jset_same, true_and, and_true]) (fun i a b => by simp (disch := omega) only [jset_k, jset_j, jset_same, true_and, and_true]) (fun i a b => by simp (disch := omega) only [jset_k, jset_j, jset_same, true_and, and_true])
    · exact hI.2.2.1.2.2.2.2.2.1.fr (by omega) (fun k j a b => by show _ = M (1 + k) j; unfold cv; simp (disch := omega) only [jset_k, jset_j, jset_same, true_and, and_true]) (fun i a b => by simp (disch := omega) only [jset_k, jset_j, jset_same, true_and, and_true]) (fun i a b => by simp (disch := omega) only [jset_k, jset_j, jset_same, true_and, and_true])
    · intro k h0 h1
      simp (disch := omega) only [jset_k, jset_j, jset_same, true_and, and_true] at h1
      simp only [cv1, Int.reduceAdd]
      have h := (hC.tk h0 h1).1
      by_cases e : k = t
      · subst e
        simp (disch := omega) only [jset_k, jset_j, jset_same, true_and, and_true]
        omega
      · simp (disch := omega) only [jset_k, jset_j, jset_same, true_and, and_true]
        exact h
    · exact hI.2.2.1.2.2.2.2.2.2.2.1.fr (by omega) (fun k j a b => by show _ = M (1 + k) j; unfold cv; simp (disch := omega) only [jset_k, jset_j, jset_same, true_and, and_true]) (fun i a b => by simp (disch := omega) only [jset_k, jset_j, jset_same, true_and, and_true])
    · exact hI.2.2.1.2.2.2.2.2.2.2.2.1.fr (fun k j a b => by show _ = M (1 + k) j; unfold cv; simp (disch := omega) only [jset_k, jset_j, jset_same, true_and, and_true]) (fun i a b => by simp (disch := omega) only [jset_k, jset_j, jset_same, true_and, and_true])
    · exact hI.2.2.1.2.2.2.2.2.2.2.2.2.1.fr (fun k j a b => by show _ = M (1 + k) j; unfold cv; simp (disch := omega) only [jset_k, jset_j, jset_same, true_and, and_true]) (fun i a b => by simp (disch := omega) only [jset_k, jset_j, jset_same, true_and, and_true])
    · exact hI.2.2.1.2.2.2.2.2.2.2.2.2.2.1.fr (by omega) (fun k j a b => by show _ = M (1 + k) j; unfold cv; simp (disch := omega) only [jset_k, jset_j, jset_same, true_and, and_true]) (fun i a b => by simp (disch := omega) only [jset_k, jset_j, jset_same, true_and, and_true])
    · exact hI.2.2.1.2.2.2.2.2.2.2.2.2.2.2.fr hI.2.1.2.2.2.2.2.2.2.2.2.2 (fun k j a b => by show _ = M (1 + k) j; unfold cv; simp (disch := omega) only [jset_k, jset_j, jset_same, true_and, and_true]) (fun i a b => by simp (disch := omega) only [jset_k, jset_j, jset_same, true_and, and_true])
theorem step_renew {M : jM} (hI : Inv M) {p v u b1 b5 : Int} (hp : 0 ≤ p ∧ p < M 929 709) : Inv (jset (jset (jset (jset (jset (jset (jset (jset (jset (jset M (84 + p) 3 (M 929 708)) (84 + p) 11 v) (84 + p) 12 u) (32 + 1) (M 929 708) b1) (32 + 5) (M 929 708) b5) 929 (2083 + M 929 708) b1) 929 (3287 + M 929 708) b5) 929 (890 + p) (M 929 708)) 929 (3775 + p) v) 929 (3835 + p) u) := by
  have hC := hI.cr
  have hn := hC.cnt
  have hg := hC.rng
  refine hI.live ?_ ?_ ?_
  · repeat (first | exact Live.rf | refine Live.c ?_ (by omega) | refine Live.r ?_ (by omega) | refine Live.s ?_ (by omega))
  · refine ⟨?_, ?_, ?_, ?_, ?_, ?_, ?_, ?_, ?_, ?_, ?_⟩
    · exact hI.2.1.1.fr (fun i hi => by simp (disch := omega) only [jset_k, jset_j, jset_same, true_and, and_true])
    · exact hI.2.1.2.1.fr (fun i a b => by simp (disch := omega) only [jset_k, jset_j, jset_same, true_and, and_true])
    · exact hI.2.1.2.2.1.fr (fun i a b => by simp (disch := omega) only [jset_k, jset_j, jset_same, true_and, and_true])
    · exact hI.2.1.2.2.2.1.fr (by omega) (fun i a b => by simp (disch := omega) only [jset_k, jset_j, jset_same, true_and, and_true])
    · exact hI.2.1.2.2.2.2.1.fr (by omega) (fun i a b => by simp (disch := omega) only [jset_k, jset_j, jset_same, true_and, and_true]) (fun i a b => by simp (disch := omega) only [jset_k, jset_j, jset_same, true_and, and_true])
    · intro q h0 h1
      simp (disch := omega) only [jset_k, jset_j, jset_same, true_and, and_true] at h1
      have h := hI.2.1.2.2.2.2.2.1 q h0 h1
      by_cases e : q = p
      · subst e
        simp (disch := omega) only [jset_k, jset_j, jset_same, true_and, and_true]
        omega
      · simp (disch := omega) only [jset_k, jset_j, jset_same, true_and, and_true]
        exact h
    · exact hI.2.1.2.2.2.2.2.2.1.fr (by omega) (by simp (disch := omega) only [jset_k, jset_j, jset_same, true_and, and_true]) (fun i a b => by simp (disch := omega) only [jset_k, jset_j, jset_same, true_and, and_true])
    · exact hI.2.1.2.2.2.2.2.2.2.1.fr (by omega) (fun i a b => by simp (disch := omega) only [jset_k, jset_j, jset_same, true_and, and_true]) (fun i a b => by simp (disch := omega) only [jset_k, jset_j, jset_same, true_and, and_true]) (by simp (disch := omega) only [jset_k, jset_j, jset_same, true_and, and_true]; omega)
    · exact hI.2.1.2.2.2.2.2.2.2.2.1.fr (by omega) (fun i a b => by simp (disch := omega) only [jset_k, jset_j, jset_same, true_and, and_true])
    · exact hI.2.1.2.2.2.2.2.2.2.2.2.1.fr (fun i a b => by simp (disch := omega) only [jset_k, jset_j, jset_same, true_and, and_true])
    · exact hI.2.1.2.2.2.2.2.2.2.2.2.2.fr (fun i a b => by simp (disch := omega) only [jset_k, jset_j, jset_same, true_and, and_true])
  · refine ⟨?_, ?_, ?_, ?_, ?_, ?_, ?_, ?_, ?_, ?_, ?_, ?_⟩
    · exact hI.2.2.1.1.fr (fun j => by show _ = M (1 + 0) j; unfold cv; simp (disch := omega) only [jset_k, jset_j, jset_same, true_and, and_true]) (fun i hi => by simp (disch := omega) only [jset_k, jset_j, jset_same, true_and, and_true])
    · exact hI.2.2.1.2.1.fr hI.2.1.2.1 (by omega) (fun k j a b => by show _ = M (1 + k) j; unfold cv; simp (disch := omega) only [jset_k, jset_j, jset_same, true_and, and_true]) (fun i a b => by simp (disch := omega) only [jset_k, jset_j, jset_same, true_and, and_true])
    · exact hI.2.2.1.2.2.1.fr hI.2.1.2.2.1 (by omega) (fun k j a b => by show _ = M (1 + k) j; unfold cv; simp (disch := omega) only [jset_k, jset_j, jset_same, true_and, and_true]) (fun i a b => by simp (disch := omega) only [jset_k, jset_j, jset_same, true_and, and_true])
    · exact hI.2.2.1.2.2.2.1.fr (by omega) (fun k j a b => by show _ = M (1 + k) j; unfold cv; simp (disch := omega) only [jset_k, jset_j, jset_same, true_and, and_true]) (fun i a b => by simp (disch := omega) only [jset_k, jset_j, jset_same, true_and, and_true])
    · exact hI.2.2.1.2.2.2.2.1.fr (by omega) (fun k j a b => by show _ = M (1 + k) j; unfold cv; simp (disch := omega) only [jset_k, jset_j, jset_same, true_and, and_true]) (fun i a b => by simp (disch := omega) only [jset_k, jset_j, jset_same, true_and, and_true]) (fun i a b => by simp (disch := omega) only [jset_k, jset_j, jset_same, true_and, and_true])
    · intro q h0 h1
      simp (disch := omega) only [jset_k, jset_j, jset_same, true_and, and_true] at h1
      simp only [cv1, Int.reduceAdd]
      have h := hC.pl h0 h1
      by_cases e : q = p
      · subst e
        simp (disch := omega) only [jset_k, jset_j, jset_same, true_and, and_true]
        first | omega | exact ⟨by omega, h.2.1, h.2.2.1, h.2.2.2.1⟩
      · simp (disch := omega) only [jset_k, jset_j, jset_same, true_and, and_true]
        exact h
    · exact hI.2.2.1.2.2.2.2.2.2.1.fr (by omega) (fun k j a b => by show _ = M (1 + k) j; unfold cv; simp (disch := omega) only [jset_k, jset_j, jset_same, true_and, and_true]) (fun i a b => by simp (disch := omega) only [jset_k, jset_j, jset_same, true_and, and_true]) (fun i a b => by simp (disch := omega) only [jset_k, jset_j, jset_same, true_and, and_true])
    · exact hI.2.2.1.2.2.2.2.2.2.2.1.fr (by omega) (fun k j a b => by show _ = M (1 + k) j; unfold cv; simp (disch := omega) only [jset_k, jset_j, jset_same, true_and, and_true]) (fun i a b => by simp (disch := omega) only [jset_k, jset_j, jset_same, true_and, and_true])
    · intro k h0 h1
      simp only [cv, Int.reduceAdd]
      have h := hC.bk h0 h1
      by_cases e : k = M 929 708
      · subst e
        simp (disch := omega) only [jset_k, jset_j, jset_same, true_and, and_true]
        first | omega | simp_all
      · simp (disch := omega) only [jset_k, jset_j, jset_same, true_and, and_true]
        first | omega | exact h
    · exact hI.2.2.1.2.2.2.2.2.2.2.2.2.1.fr (fun k j a b => by show _ = M (1 + k) j; unfold cv; simp (disch := omega) only [jset_k, jset_j, jset_same, true_and, and_true]) (fun i a b => by simp (disch := omega) only [jset_k, jset_j, jset_same, true_and, and_true])
    · exact hI.2.2.1.2.2.2.2.2.2.2.2.2.2.1.fr (by omega) (fun k j a b => by show _ = M (1 + k) j; unfold cv; simp (disch := omega) only [jset_k, jset_j, jset_same, true_and, and_true]) (fun i a b => by simp (disch := omega) only [jset_k, jset_j, jset_same, true_and, and_true])
    · exact hI.2.2.1.2.2.2.2.2.2.2.2.2.2.2.fr hI.2.1.2.2.2.2.2.2.2.2.2.2 (fun k j a b => by show _ = M (1 + k) j; unfold cv; simp (disch := omega) only [jset_k, jset_j, jset_same, true_and, and_true]) (fun i a b => by simp (disch := omega) only [jset_k, jset_j, jset_same, true_and, and_true])
theorem step_book2 {M : jM} (hI : Inv M) {b w o v v2 : Int} (hb : 0 ≤ b ∧ b < 6) (hw : 0 ≤ w ∧ w < 301) (ho : o = 1782 + 301 * b) (e : v = v2) : Inv (jset (jset M (32 + b) w v) 929 (o + w) v2) := by
  have hC := hI.cr
  have hn := hC.cnt
  have hg := hC.rng
  subst ho
  exact step_book hI hb hw e
theorem step_over {M : jM} (hI : Inv M) {p v v2 : Int} (hp : 0 ≤ p ∧ p < M 929 709) (e : v = v2) : Inv (jset (jset M (84 + p) 10 v) 929 (1250 + p) v2) := by
  have hC := hI.cr
  have hn := hC.cnt
  have hg := hC.rng
  subst e
  refine hI.live ?_ ?_ ?_
  · repeat (first | exact Live.rf | refine Live.c ?_ (by omega) | refine Live.r ?_ (by omega) | refine Live.s ?_ (by omega))
  · refine ⟨?_, ?_, ?_, ?_, ?_, ?_, ?_, ?_, ?_, ?_, ?_⟩
    · exact hI.2.1.1.fr (fun i hi => by simp (disch := omega) only [jset_k, jset_j, jset_same, true_and, and_true])
    · exact hI.2.1.2.1.fr (fun i a b => by simp (disch := omega) only [jset_k, jset_j, jset_same, true_and, and_true])
    · exact hI.2.1.2.2.1.fr (fun i a b => by simp (disch := omega) only [jset_k, jset_j, jset_same, true_and, and_true])
    · exact hI.2.1.2.2.2.1.fr (by omega) (fun i a b => by simp (disch := omega) only [jset_k, jset_j, jset_same, true_and, and_true])
    · exact hI.2.1.2.2.2.2.1.fr (by omega) (fun i a b => by simp (disch := omega) only [jset_k, jset_j, jset_same, true_and, and_true]) (fun i a b => by simp (disch := omega) only [jset_k, jset_j, jset_same, true_and, and_true])
    · exact hI.2.1.2.2.2.2.2.1.fr (by omega) (fun i a b => by simp (disch := omega) only [jset_k, jset_j, jset_same, true_and, and_true]) (fun i a b => by simp (disch := omega) only [jset_k, jset_j, jset_same, true_and, and_true]) (by simp (disch := omega) only [jset_k, jset_j, jset_same, true_and, and_true]; omega)
    · exact hI.2.1.2.2.2.2.2.2.1.fr (by omega) (by simp (disch := omega) only [jset_k, jset_j, jset_same, true_and, and_true]) (fun i a b => by simp (disch := omega) only [jset_k, jset_j, jset_same, true_and, and_true])
    · exact hI.2.1.2.2.2.2.2.2.2.1.fr (by omega) (fun i a b => by simp (disch := omega) only [jset_k, jset_j, jset_same, true_and, and_true]) (fun i a b => by simp (disch := omega) only [jset_k, jset_j, jset_same, true_and, and_true]) (by simp (disch := omega) only [jset_k, jset_j, jset_same, true_and, and_true]; omega)
    · exact hI.2.1.2.2.2.2.2.2.2.2.1.fr (by omega) (fun i a b => by simp (disch := omega) only [jset_k, jset_j, jset_same, true_and, and_true])
    · exact hI.2.1.2.2.2.2.2.2.2.2.2.1.fr (fun i a b => by simp (disch := omega) only [jset_k, jset_j, jset_same, true_and, and_true])
    · exact hI.2.1.2.2.2.2.2.2.2.2.2.2.fr (fun i a b => by simp (disch := omega) only [jset_k, jset_j, jset_same, true_and, and_true])
  · refine ⟨?_, ?_, ?_, ?_, ?_, ?_, ?_, ?_, ?_, ?_, ?_, ?_⟩
    · exact hI.2.2.1.1.fr (fun j => by show _ = M (1 + 0) j; unfold cv; simp (disch := omega) only [jset_k, jset_j, jset_same, true_and, and_true]) (fun i hi => by simp (disch := omega) only [jset_k, jset_j, jset_same, true_and, and_true])
    · exact hI.2.2.1.2.1.fr hI.2.1.2.1 (by omega) (fun k j a b => by show _ = M (1 + k) j; unfold cv; simp (disch := omega) only [jset_k, jset_j, jset_same, true_and, and_true]) (fun i a b => by simp (disch := omega) only [jset_k, jset_j, jset_same, true_and, and_true])
    · exact hI.2.2.1.2.2.1.fr hI.2.1.2.2.1 (by omega) (fun k j a b => by show _ = M (1 + k) j; unfold cv; simp (disch := omega) only [jset_k, jset_j, jset_same, true_and, and_true]) (fun i a b => by simp (disch := omega) only [jset_k, jset_j, jset_same, true_and, and_true])
    · exact hI.2.2.1.2.2.2.1.fr (by omega) (fun k j a b => by show _ = M (1 + k) j; unfold cv; simp (disch := omega) only [jset_k, jset_j, jset_same, true_and, and_true]) (fun i a b => by simp (disch := omega) only [jset_k, jset_j, jset_same, true_and, and_true])
    · exact hI.2.2.1.2.2.2.2.1.fr (by omega) (fun k j a b => by show _ = M (1 + k) j; unfold cv; simp (disch := omega) only [jset_k, jset_j, jset_same, true_and, and_true]) (fun i a b => by simp (disch := omega) only [jset_k, jset_j, jset_same, true_and, and_true]) (fun i a b => by simp (disch := omega) only [jset_k, jset_j, jset_same, true_and, and_true])
    · intro q h0 h1
      simp (disch := omega) only [jset_k, jset_j, jset_same, true_and, and_true] at h1
      simp only [cv1, Int.reduceAdd]
      have h := hC.pl h0 h1
      by_cases e : q = p
      · subst e
        simp (disch := omega) only [jset_k, jset_j, jset_same, true_and, and_true]
        first | omega | exact ⟨by omega, h.2.1, h.2.2.1, h.2.2.2.1⟩
      · simp (disch := omega) only [jset_k, jset_j, jset_same, true_and, and_true]
        exact h
    · exact hI.2.2.1.2.2.2.2.2.2.1.fr (by omega) (fun k j a b => by show _ = M (1 + k) j; unfold cv; simp (disch := omega) only [jset_k, jset_j, jset_same, true_and, and_true]) (fun i a b => by simp (disch := omega) only [jset_k, jset_j, jset_same, true_and, and_true]) (fun i a b => by simp (disch := omega) only [jset_k, jset_j, jset_same, true_and, and_true])
    · exact hI.2.2.1.2.2.2.2.2.2.2.1.fr (by omega) (fun k j a b => by show _ = M (1 + k) j; unfold cv; simp (disch := omega) only [jset_k, jset_j, jset_same, true_and, and_true]) (fun i a b => by simp (disch := omega) only [jset_k, jset_j, jset_same, true_and, and_true])
    · exact hI.2.2.1.2.2.2.2.2.2.2.2.1.fr (fun k j a b => by show _ = M (1 + k) j; unfold cv; simp (disch := omega) only [jset_k, jset_j, jset_same, true_and, and_true]) (fun i a b => by simp (disch := omega) only [jset_k, jset_j, jset_same, true_and, and_true])
    · exact hI.2.2.1.2.2.2.2.2.2.2.2.2.1.fr (fun k j a b => by show _ = M (1 + k) j; unfold cv; simp (disch := omega) only [jset_k, jset_j, jset_same, true_and, and_true]) (fun i a b => by simp (disch := omega) only [jset_k, jset_j, jset_same, true_and, and_true])
    · exact hI.2.2.1.2.2.2.2.2.2.2.2.2.2.1.fr (by omega) (fun k j a b => by show _ = M (1 + k) j; unfold cv; simp (disch := omega) only [jset_k, jset_j, jset_same, true_and, and_true]) (fun i a b => by simp (disch := omega) only [jset_k, jset_j, jset_same, true_and, and_true])
    · exact hI.2.2.1.2.2.2.2.2.2.2.2.2.2.2.fr hI.2.1.2.2.2.2.2.2.2.2.2.2 (fun k j a b => by show _ = M (1 + k) j; unfold cv; simp (disch := omega) only [jset_k, jset_j, jset_same, true_and, and_true]) (fun i a b => by simp (disch := omega) only [jset_k, jset_j, jset_same, true_and, and_true])
theorem step_left1 {M : jM} (hI : Inv M) {p : Int} (hp : 0 ≤ p ∧ p < M 929 709) : Inv (jset (jset (jset (jset (jset (jset M (84 + p) 6 1) (84 + p) 5 (-1)) (84 + p) 8 (M 929 708)) 929 (1010 + p) 1) 929 (1190 + p) (M 929 708)) 929 (950 + p) (-1)) := by
  have hC := hI.cr
  have hn := hC.cnt
  have hg := hC.rng
  refine hI.live ?_ ?_ ?_
  · repeat (first | exact Live.rf | refine Live.c ?_ (by omega) | refine Live.r ?_ (by omega) | refine Live.s ?_ (by omega))
  · refine ⟨?_, ?_, ?_, ?_, ?_, ?_, ?_, ?_, ?_, ?_, ?_⟩
    · exact hI.2.1.1.fr (fun i hi => by simp (disch := omega) only [jset_k, jset_j, jset_same, true_and, and_true])
    · exact hI.2.1.2.1.fr (fun i a b => by simp (disch := omega) only [jset_k, jset_j, jset_same, true_and, and_true])
    · exact hI.2.1.2.2.1.fr (fun i a b => by simp (disch := omega) only [jset_k, jset_j, jset_same, true_and, and_true])
    · exact hI.2.1.2.2.2.1.fr (by omega) (fun i a b => by simp (disch := omega) only [jset_k, jset_j, jset_same, true_and, and_true])
    · exact hI.2.1.2.2.2.2.1.fr (by omega) (fun i a b => by simp (disch := omega) only [jset_k, jset_j, jset_same, true_and, and_true]) (fun i a b => by simp (disch := omega) only [jset_k, jset_j, jset_same, true_and, and_true])
    · intro q h0 h1
      simp (disch := omega) only [jset_k, jset_j, jset_same, true_and, and_true] at h1
      have h := hI.2.1.2.2.2.2.2.1 q h0 h1
      by_cases e : q = p
      · subst e
        simp (disch := omega) only [jset_k, jset_j, jset_same, true_and, and_true]
        exact ⟨h.1, h.2.1, h.2.2.1, h.2.2.2.1, h.2.2.2.2.1, ⟨by omega, by omega, fun _ => by first | trivial | rfl⟩, by omega, fun _ => by omega⟩
      · simp (disch := omega) only [jset_k, jset_j, jset_same, true_and, and_true]
        exact h
    · exact hI.2.1.2.2.2.2.2.2.1.fr (by omega) (by simp (disch := omega) only [jset_k, jset_j, jset_same, true_and, and_true]) (fun i a b => by simp (disch := omega) only [jset_k, jset_j, jset_same, true_and, and_true])
    · exact hI.2.1.2.2.2.2.2.2.2.1.fr (by omega) (fun i a b => by simp (disch := omega) only [jset_k, jset_j, jset_same, true_and, and_true]) (fun i a b => by simp (disch := omega) only [jset_k, jset_j, jset_same, true_and, and_true]) (by simp (disch := omega) only [jset_k, jset_j, jset_same, true_and, and_true]; omega)
    · exact hI.2.1.2.2.2.2.2.2.2.2.1.fr (by omega) (fun i a b => by simp (disch := omega) only [jset_k, jset_j, jset_same, true_and, and_true])
    · exact hI.2.1.2.2.2.2.2.2.2.2.2.1.fr (fun i a b => by simp (disch := omega) only [jset_k, jset_j, jset_same, true_and, and_true])
    · exact hI.2.1.2.2.2.2.2.2.2.2.2.2.fr (fun i a b => by simp (disch := omega) only [jset_k, jset_j, jset_same, true_and, and_true])
  · refine ⟨?_, ?_, ?_, ?_, ?_, ?_, ?_, ?_, ?_, ?_, ?_, ?_⟩
    · exact hI.2.2.1.1.fr (fun j => by show _ = M (1 + 0) j; unfold cv; simp (disch := omega) only [jset_k, jset_j, jset_same, true_and, and_true]) (fun i hi => by simp (disch := omega) only [jset_k, jset_j, jset_same, true_and, and_true])
    · exact hI.2.2.1.2.1.fr hI.2.1.2.1 (by omega) (fun k j a b => by show _ = M (1 + k) j; unfold cv; simp (disch := omega) only [jset_k, jset_j, jset_same, true_and, and_true]) (fun i a b => by simp (disch := omega) only [jset_k, jset_j, jset_same, true_and, and_true])
    · exact hI.2.2.1.2.2.1.fr hI.2.1.2.2.1 (by omega) (fun k j a b => by show _ = M (1 + k) j; unfold cv; simp (disch := omega) only [jset_k, jset_j, jset_same, true_and, and_true]) (fun i a b => by simp (disch := omega) only [jset_k, jset_j, jset_same, true_and, and_true])
    · exact hI.2.2.1.2.2.2.1.fr (by omega) (fun k j a b => by show _ = M (1 + k) j; unfold cv; simp (disch := omega) only [jset_k, jset_j, jset_same, true_and, and_true]) (fun i a b => by simp (disch := omega) only [jset_k, jset_j, jset_same, true_and, and_true])
    · exact hI.2.2.1.2.2.2.2.1.fr (by omega) (fun k j a b => by show _ = M (1 + k) j; unfold cv; simp (disch := omega) only [jset_k, jset_j, jset_same, true_and, and_true]) (fun i a b => by simp (disch := omega) only [jset_k, jset_j, jset_same, true_and, and_true]) (fun i a b => by simp (disch := omega) only [jset_k, jset_j, jset_same, true_and, and_true])
    · intro q h0 h1
      simp (disch := omega) only [jset_k, jset_j, jset_same, true_and, and_true] at h1
      simp only [cv1, Int.reduceAdd]
      have h := hC.pl h0 h1
      by_cases e : q = p
      · subst e
        simp (disch := omega) only [jset_k, jset_j, jset_same, true_and, and_true]
        exact ⟨by omega, fun q => by first | trivial | rfl | omega, fun q => by first | trivial | rfl | omega, h.2.2.2⟩
      · simp (disch := omega) only [jset_k, jset_j, jset_same, true_and, and_true]
        exact h
    · exact hI.2.2.1.2.2.2.2.2.2.1.fr (by omega) (fun k j a b => by show _ = M (1 + k) j; unfold cv; simp (disch := omega) only [jset_k, jset_j, jset_same, true_and, and_true]) (fun i a b => by simp (disch := omega) only [jset_k, jset_j, jset_same, true_and, and_true]) (fun i a b => by simp (disch := omega) only [jset_k, jset_j, jset_same, true_and, and_true])
    · exact hI.2.2.1.2.2.2.2.2.2.2.1.fr (by omega) (fun k j a b => by show _ = M (1 + k) j; unfold cv; simp (disch := omega) only [jset_k, jset_j, jset_same, true_and, and_true]) (fun i a b => by simp (disch := omega) only [jset_k, jset_j, jset_same, true_and, and_true])
    · exact hI.2.2.1.2.2.2.2.2.2.2.2.1.fr (fun k j a b => by show _ = M (1 + k) j; unfold cv; simp (disch := omega) only [jset_k, jset_j, jset_same, true_and, and_true]) (fun i a b => by simp (disch := omega) only [jset_k, jset_j, jset_same, true_and, and_true])
    · exact hI.2.2.1.2.2.2.2.2.2.2.2.2.1.fr (fun k j a b => by show _ = M (1 + k) j; unfold cv; simp (disch := omega) only [jset_k, jset_j, jset_same, true_and, and_true]) (fun i a b => by simp (disch := omega) only [jset_k, jset_j, jset_same, true_and, and_true])
    · exact hI.2.2.1.2.2.2.2.2.2.2.2.2.2.1.fr (by omega) (fun k j a b => by show _ = M (1 + k) j; unfold cv; simp (disch := omega) only [jset_k, jset_j, jset_same, true_and, and_true]) (fun i a b => by simp (disch := omega) only [jset_k, jset_j, jset_same, true_and, and_true])
    · exact hI.2.2.1.2.2.2.2.2.2.2.2.2.2.2.fr hI.2.1.2.2.2.2.2.2.2.2.2.2 (fun k j a b => by show _ = M (1 + k) j; unfold cv; simp (disch := omega) only [jset_k, jset_j, jset_same, true_and, and_true]) (fun i a b => by simp (disch := omega) only [jset_k, jset_j, jset_same, true_and, and_true])
theorem step_left2 {M : jM} (hI : Inv M) {p : Int} (hp : 0 ≤ p ∧ p < M 929 709) : Inv (jset (jset (jset (jset (jset (jset M (84 + p) 9 (M 929 708)) (84 + p) 6 2) (84 + p) 5 (-1)) 929 (1010 + p) 2) 929 (1190 + p) (M 929 708)) 929 (950 + p) (-1)) := by
  have hC := hI.cr
  have hn := hC.cnt
  have hg := hC.rng
  refine hI.live ?_ ?_ ?_
  · repeat (first | exact Live.rf | refine Live.c ?_ (by omega) | refine Live.r ?_ (by omega) | refine Live.s ?_ (by omega))
  · refine ⟨?_, ?_, ?_, ?_, ?_, ?_, ?_, ?_, ?_, ?_, ?_⟩
    · exact hI.2.1.1.fr (fun i hi => by simp (disch := omega) only [jset_k, jset_j, jset_same, true_and, and_true])
    · exact hI.2.1.2.1.fr (fun i a b => by simp (disch := omega) only [jset_k, jset_j, jset_same, true_and, and_true])
    · exact hI.2.1.2.2.1.fr (fun i a b => by simp (disch := omega) only [jset_k, jset_j, jset_same, true_and, and_true])
    · exact hI.2.1.2.2.2.1.fr (by omega) (fun i a b => by simp (disch := omega) only [jset_k, jset_j, jset_same, true_and, and_true])
    · exact hI.2.1.2.2.2.2.1.fr (by omega) (fun i a b => by simp (disch := omega) only [jset_k, jset_j, jset_same, true_and, and_true]) (fun i a b => by simp (disch := omega) only [jset_k, jset_j, jset_same, true_and, and_true])
    · intro q h0 h1
      simp (disch := omega) only [jset_k, jset_j, jset_same, true_and, and_true] at h1
      have h := hI.2.1.2.2.2.2.2.1 q h0 h1
      by_cases e : q = p
      · subst e
        simp (disch := omega) only [jset_k, jset_j, jset_same, true_and, and_true]
        exact ⟨h.1, h.2.1, h.2.2.1, h.2.2.2.1, h.2.2.2.2.1, ⟨by omega, by omega, fun _ => by first | trivial | rfl⟩, by omega, fun _ => by omega⟩
      · simp (disch := omega) only [jset_k, jset_j, jset_same, true_and, and_true]
        exact h
    · exact hI.2.1.2.2.2.2.2.2.1.fr (by omega) (by simp (disch := omega) only [jset_k, jset_j, jset_same, true_and, and_true]) (fun i a b => by simp (disch := omega) only [jset_k, jset_j, jset_same, true_and, and_true])
    · exact hI.2.1.2.2.2.2.2.2.2.1.fr (by omega) (fun i a b => by simp (disch := omega) only [jset_k, jset_j, jset_same, true_and, and_true]) (fun i a b => by simp (disch := omega) only [jset_k, jset_j, jset_same, true_and, and_true]) (by simp (disch := omega) only [jset_k, jset_j, jset_same, true_and, and_true]; omega)
    · exact hI.2.1.2.2.2.2.2.2.2.2.1.fr (by omega) (fun i a b => by simp (disch := omega) only [jset_k, jset_j, jset_same, true_and, and_true])
    · exact hI.2.1.2.2.2.2.2.2.2.2.2.1.fr (fun i a b => by simp (disch := omega) only [jset_k, jset_j, jset_same, true_and, and_true])
    · exact hI.2.1.2.2.2.2.2.2.2.2.2.2.fr (fun i a b => by simp (disch := omega) only [jset_k, jset_j, jset_same, true_and, and_true])
  · refine ⟨?_, ?_, ?_, ?_, ?_, ?_, ?_, ?_, ?_, ?_, ?_, ?_⟩
    · exact hI.2.2.1.1.fr (fun j => by show _ = M (1 + 0) j; unfold cv; simp (disch := omega) only [jset_k, jset_j, jset_same, true_and, and_true]) (fun i hi => by simp (disch := omega) only [jset_k, jset_j, jset_same, true_and, and_true])
    · exact hI.2.2.1.2.1.fr hI.2.1.2.1 (by omega) (fun k j a b => by show _ = M (1 + k) j; unfold cv; simp (disch := omega) only [jset_k, jset_j, jset_same, true_and, and_true]) (fun i a b => by simp (disch := omega) only [jset_k, jset_j, jset_same, true_and, and_true])
    · exact hI.2.2.1.2.2.1.fr hI.2.1.2.2.1 (by omega) (fun k j a b => by show _ = M (1 + k) j; unfold cv; simp (disch := omega) only [jset_k, jset_j, jset_same, true_and, and_true]) (fun i a b => by simp (disch := omega) only [jset_k, jset_j, jset_same, true_and, and_true])
    · exact hI.2.2.1.2.2.2.1.fr (by omega) (fun k j a b => by show _ = M (1 + k) j; unfold cv; simp (disch := omega) only [jset_k, jset_j, jset_same, true_and, and_true]) (fun i a b => by simp (disch := omega) only [jset_k, jset_j, jset_same, true_and, and_true])
    · exact hI.2.2.1.2.2.2.2.1.fr (by omega) (fun k j a b => by show _ = M (1 + k) j; unfold cv; simp (disch := omega) only [jset_k, jset_j, jset_same, true_and, and_true]) (fun i a b => by simp (disch := omega) only [jset_k, jset_j, jset_same, true_and, and_true]) (fun i a b => by simp (disch := omega) only [jset_k, jset_j, jset_same, true_and, and_true])
    · intro q h0 h1
      simp (disch := omega) only [jset_k, jset_j, jset_same, true_and, and_true] at h1
      simp only [cv1, Int.reduceAdd]
      have h := hC.pl h0 h1
      by_cases e : q = p
      · subst e
        simp (disch := omega) only [jset_k, jset_j, jset_same, true_and, and_true]
        exact ⟨by omega, fun q => by first | trivial | rfl | omega, fun q => by first | trivial | rfl | omega, h.2.2.2⟩
      · simp (disch := omega) only [jset_k, jset_j, jset_same, true_and, and_true]
        exact h
    · exact hI.2.2.1.2.2.2.2.2.2.1.fr (by omega) (fun k j a b => by show _ = M (1 + k) j; unfold cv; simp (disch := omega) only [jset_k, jset_j, jset_same, true_and, and_true]) (fun i a b => by simp (disch := omega) only [jset_k, jset_j, jset_same, true_and, and_true]) (fun i a b => by simp (disch := omega) only [jset_k, jset_j, jset_same, true_and, and_true])
    · exact hI.2.2.1.2.2.2.2.2.2.2.1.fr (by omega) (fun k j a b => by show _ = M (1 + k) j; unfold cv; simp (disch := omega) only [jset_k, jset_j, jset_same, true_and, and_true]) (fun i a b => by simp (disch := omega) only [jset_k, jset_j, jset_same, true_and, and_true])
    · exact hI.2.2.1.2.2.2.2.2.2.2.2.1.fr (fun k j a b => by show _ = M (1 + k) j; unfold cv; simp (disch := omega) only [jset_k, jset_j, jset_same, true_and, and_true]) (fun i a b => by simp (disch := omega) only [jset_k, jset_j, jset_same, true_and, and_true])
    · exact hI.2.2.1.2.2.2.2.2.2.2.2.2.1.fr (fun k j a b => by show _ = M (1 + k) j; unfold cv; simp (disch := omega) only [jset_k, jset_j, jset_same, true_and, and_true]) (fun i a b => by simp (disch := omega) only [jset_k, jset_j, jset_same, true_and, and_true])
    · exact hI.2.2.1.2.2.2.2.2.2.2.2.2.2.1.fr (by omega) (fun k j a b => by show _ = M (1 + k) j; unfold cv; simp (disch := omega) only [jset_k, jset_j, jset_same, true_and, and_true]) (fun i a b => by simp (disch := omega) only [jset_k, jset_j, jset_same, true_and, and_true])
    · exact hI.2.2.1.2.2.2.2.2.2.2.2.2.2.2.fr hI.2.1.2.2.2.2.2.2.2.2.2.2 (fun k j a b => by show _ = M (1 + k) j; unfold cv; simp (disch := omega) only [jset_k, jset_j, jset_same, true_and, and_true]) (fun i a b => by simp (disch := omega) only [jset_k, jset_j, jset_same, true_and, and_true])
theorem cLeave_1 {M : jM} {p : Int} : cLeave M p 1 = cKill (jset (jset (jset M (84 + p) 6 1) (84 + p) 5 (-1)) (84 + p) 8 (M 1 4)) p (M 1 12) := by
  unfold cLeave
  rw [if_pos rfl]
theorem cLeave_2 {M : jM} {p : Int} : cLeave M p 2 = cKill (jset (jset M (84 + p) 6 2) (84 + p) 5 (-1)) p (M 1 12) := by
  unfold cLeave
  rw [if_neg (by decide)]
theorem lOk_set {M : jM} {k j v : Int} (hk : 11 ≤ k) : lOk (jset M k j v) 2 = lOk M 2 := by
  simp (disch := omega) only [lOk, jset_row]
theorem pOk_set {M : jM} {k j v p : Int} (h : pOk M p) (hk : 11 ≤ k ∧ k < 84) : pOk (jset M k j v) p := by
  obtain ⟨h1, h2, h3, h4⟩ := h
  refine ⟨h1, by rw [lOk_set (by omega)]; exact h2, ?_, ?_⟩
  · rw [jset_row (by omega)]
    exact h3
  · rw [jset_row (by omega), jset_row (by omega)]
    exact h4
theorem iOf_set {M : jM} {k j v p : Int} (hp : 0 ≤ p) (hk : 11 ≤ k ∧ k < 84) : iOf (jset M k j v) p = iOf M p := by
  simp (disch := omega) only [iOf, lChg, lHalf, jset_row]
theorem rHalf_fr {a a2 : Int → Int} {l : Int} (hO : RLaw a 0) (e : ∀ i, 0 ≤ i → i < 31 → a2 i = a i) : rHalf a2 0 l = rHalf a 0 l := by
  have h0 := hO.1
  unfold rHalf
  rw [e 0 (by omega) (by omega)]
  exact lTake_cong _ 0 (fun j x y => ⟨e _ (by omega) (by omega), e _ (by omega) (by omega), e _ (by omega) (by omega)⟩)
theorem rTop_fr {a a2 : Int → Int} (hO : RLaw a 0) (e : ∀ i, 0 ≤ i → i < 31 → a2 i = a i) : rTop a2 0 = rTop a 0 := by
  have h0 := hO.1
  unfold rTop fTop
  rw [e 0 (by omega) (by omega)]
  split
  · exact e _ (by omega) (by omega)
  · rfl
theorem rI_fr {a a2 : Int → Int} {p : Int} (hO : RLaw a 0) (e : ∀ i, 0 ≤ i → i < 31 → a2 i = a i) (e1 : a2 (830 + p) = a (830 + p)) (e2 : a2 708 = a 708) (e3 : a2 (890 + p) = a (890 + p)) : rI a2 p = rI a p := by
  have h25 : a2 (0 + 25) = a (0 + 25) := e _ (by omega) (by omega)
  have h25b : a2 25 = a 25 := e _ (by omega) (by omega)
  unfold rI rChg
  rw [rTop_fr hO e, rHalf_fr hO e, e1, e2, e3, h25, h25b]
theorem rI_set {M : jM} {j v p : Int} (hO : RLaw (M 929) 0) (hj : 692 ≤ j ∧ j < 708) (hp : 0 ≤ p) : rI (jset M 929 j v 929) p = rI (M 929) p := by
  rw [jset_929]
  exact rI_fr hO (fun i x y => rset_ne (by omega)) (rset_ne (by omega)) (rset_ne (by omega)) (rset_ne (by omega))
theorem rOkP_set {M : jM} {j v p : Int} (h : rOkP (M 929) p) (hj : 692 ≤ j ∧ j < 708) : rOkP (jset M 929 j v 929) p := by
  obtain ⟨h1, h2, h3, h4⟩ := h
  rw [jset_929]
  refine ⟨h1.fr (fun i x y => rset_ne (by omega)), h2, ?_, ?_⟩
  · rw [rset_ne (by omega)]
    exact h3
  · rw [rset_ne (by omega), rset_ne (by omega)]
    exact h4
/-- the same but for the row -/
def Ceq (X Y : jM) : Prop := ∀ k, k ≠ 929 → X k = Y k
theorem Ceq.rf {X : jM} : Ceq X X := fun _ _ => rfl
theorem Ceq.lr {X Y : jM} (h : Ceq X Y) {j v : Int} : Ceq (jset X 929 j v) Y := fun k e => (jset_row e).trans (h k e)
theorem Ceq.rr {X Y : jM} (h : Ceq X Y) {j v : Int} : Ceq X (jset Y 929 j v) := fun k e => (h k e).trans (jset_row e).symm
theorem rKill_row {M : jM} {p n k : Int} (h : k ≠ 929) : rKill M p n k = M k := funext fun j => if_neg (fun q => h q.1)
theorem rGive_row {M : jM} {p n k : Int} (h : k ≠ 929) : rGive M p n k = M k := by
  unfold rGive
  simp only [jset_row h]
theorem Ceq.lk {X Y : jM} (h : Ceq X Y) {p n : Int} : Ceq (rKill X p n) Y := fun k e => (rKill_row e).trans (h k e)
theorem Ceq.rk {X Y : jM} (h : Ceq X Y) {p n : Int} : Ceq X (rKill Y p n) := fun k e => (h k e).trans (rKill_row e).symm
theorem Ceq.lg {X Y : jM} (h : Ceq X Y) {p n : Int} : Ceq (rGive X p n) Y := fun k e => (rGive_row e).trans (h k e)
theorem Ceq.rg {X Y : jM} (h : Ceq X Y) {p n : Int} : Ceq X (rGive Y p n) := fun k e => (h k e).trans (rGive_row e).symm
theorem Ceq.set {X Y : jM} (h : Ceq X Y) {k j v k2 j2 v2 : Int} (e1 : k = k2) (e2 : j = j2) (e3 : v = v2) : Ceq (jset X k j v) (jset Y k2 j2 v2) := fun x e => by
  subst e1 e2 e3
  funext i
  unfold jset
  rw [h x e]
theorem Ceq.kill {X Y : jM} (h : Ceq X Y) {p n p2 n2 : Int} (e1 : p = p2) (e2 : n = n2) : Ceq (cKill X p n) (cKill Y p2 n2) := fun x e => by
  subst e1 e2
  funext i
  unfold cKill
  rw [h x e]
theorem Ceq.give {X Y : jM} (h : Ceq X Y) {p n p2 n2 : Int} (e1 : p = p2) (e2 : n = n2) : Ceq (cGive X p n) (cGive Y p2 n2) := by
  have a := h 1 (by omega)
  subst e1 e2
  unfold cGive
  rw [a]
  exact ((((h.set rfl rfl rfl).set rfl rfl rfl).set rfl rfl rfl).set rfl rfl rfl).set rfl rfl rfl
/-- the same row -/
theorem req_c {X : jM} {r : Int → Int} (h : X 929 = r) {k j v : Int} (e : k ≠ 929) : jset X k j v 929 = r := (jset_row (Ne.symm e)).trans h
theorem req_ck {X : jM} {r : Int → Int} (h : X 929 = r) {p n : Int} (e : n ≤ 150) : cKill X p n 929 = r := (funext fun j => cKill_o (by omega)).trans h
theorem req_cg {X : jM} {r : Int → Int} (h : X 929 = r) {p n : Int} (e : 0 ≤ X 1 12) (e2 : X 1 12 < 150) : cGive X p n 929 = r := by
  unfold cGive
  rw [jset_row (by omega), jset_row (by omega), jset_row (by omega), jset_row (by omega), jset_row (by omega)]
  exact h
theorem req_s {X Y : jM} (h : X 929 = Y 929) {j v j2 v2 : Int} (e2 : j = j2) (e3 : v = v2) : jset X 929 j v 929 = jset Y 929 j2 v2 929 := by
  subst e2 e3
  rw [jset_929, jset_929, h]
theorem req_k {X Y : jM} (h : X 929 = Y 929) {p n p2 n2 : Int} (e1 : p = p2) (e2 : n = n2) : rKill X p n 929 = rKill Y p2 n2 929 := by
  subst e1 e2
  funext j
  unfold rKill
  rw [h]
theorem req_g {X Y : jM} (h : X 929 = Y 929) {p n p2 n2 : Int} (e1 : p = p2) (e2 : n = n2) : rGive X p n 929 = rGive Y p2 n2 929 := by
  subst e1 e2
  unfold rGive
  rw [h]
  exact req_s (req_s (req_s (req_s (req_s h rfl rfl) rfl rfl) rfl rfl) rfl rfl) rfl rfl
theorem inv_eq {M2 M3 : jM} (h : Inv M3) (c : Ceq M2 M3) (r : M2 929 = M3 929) : Inv M2 := by
  have e : M2 = M3 := funext fun k => if q : k = 929 then by rw [q]; exact r else c k q
  rw [e]
  exact h
def aGive (a : Int → Int) (p h : Int) : Int → Int := rset (rset (rset (rset (rset a (1311 + a 1310) p) (1461 + a 1310) h) (1611 + a 1310) 1) (3609 + a 1310) (a 3608)) 1310 (a 1310 + 1)
def aKill (a : Int → Int) (p n : Int) : Int → Int := fun j => if (1611 ≤ j ∧ j < 1611 + n) ∧ a (j - 300) = p then 0 else a j
theorem rGive_929 {M : jM} {p h : Int} : rGive M p h 929 = aGive (M 929) p h := by
  unfold rGive aGive
  rw [jset_929, jset_929, jset_929, jset_929, jset_929]
theorem rKill_929 {M : jM} {p n : Int} : rKill M p n 929 = aKill (M 929) p n := by
  funext j
  unfold rKill aKill
  by_cases e : (1611 ≤ j ∧ j < 1611 + n) ∧ M 929 (j - 300) = p
  · rw [if_pos e, if_pos ⟨rfl, e⟩]
  · rw [if_neg e, if_neg (fun q => e q.2)]
theorem cGive_hi {M : jM} {p h k : Int} (hk : 294 ≤ k) (e : 0 ≤ M 1 12 ∧ M 1 12 < 150) : cGive M p h k = M k := by
  unfold cGive
  rw [jset_row (by omega), jset_row (by omega), jset_row (by omega), jset_row (by omega), jset_row (by omega)]
theorem cKill_hi {M : jM} {p n k : Int} (hk : 294 ≤ k) (e : n ≤ 150) : cKill M p n k = M k := funext fun j => cKill_o (by omega)
theorem cEnter_hi {M : jM} {b v k : Int} (hk : 294 ≤ k) (e : b < 6) : cEnter M b v k = M k := jset_row (by omega)
