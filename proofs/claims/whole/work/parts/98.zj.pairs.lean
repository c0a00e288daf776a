/-! TEXTS *** a test read is well formed *** no program *** -/
section
variable {M : jM} {n : Int} {s z y : PS} {d e g : Int}
theorem LSeg.eqr (h : LSeg s z d e) (ea : y.2.2.2.2.2.2.2.2.2 = z.2.2.2.2.2.2.2.2.2) (es : y.2.2.2.2.2.2.2.1 = z.2.2.2.2.2.2.2.1) : LSeg s y d e := by
  unfold LSeg at h ⊢
  rw [ea, es]
  exact h
end
def LG0 (M : jM) (n : Int) (f : Nat) : Prop := ∀ (s : PS) (d : Int), PI n s → s.2.2.2.2.1 = 0 → 5 * (n - s.1) + 1 ≤ f → (prs (M 931) n f 0 s).2.2.2.2.1 = 0 → 0 ≤ d → d + 2 * (8 - s.2.2.2.2.2.2.1) + 0 ≤ 60 → LSeg s (prs (M 931) n f 0 s) d (d + 1)
def LG1 (M : jM) (n : Int) (f : Nat) : Prop := ∀ (s : PS) (d : Int), PI n s → s.2.2.2.2.1 = 0 → 5 * (n - s.1) + 1 ≤ f → (prs (M 931) n f 1 s).2.2.2.2.1 = 0 → 1 ≤ d → d + 2 * (8 - s.2.2.2.2.2.2.1) ≤ 60 → LSeg s (prs (M 931) n f 1 s) d d
def LG2 (M : jM) (n : Int) (f : Nat) : Prop := ∀ (s : PS) (d : Int), PI n s → s.2.2.2.2.1 = 0 → 5 * (n - s.1) + 1 ≤ f → (prs (M 931) n f 2 s).2.2.2.2.1 = 0 → 1 ≤ d → d + 2 * (8 - s.2.2.2.2.2.2.1) + 1 ≤ 60 → LSeg s (prs (M 931) n f 2 s) d d
def LG3 (M : jM) (n : Int) (f : Nat) : Prop := ∀ (s : PS) (d : Int), PI n s → s.2.2.2.2.1 = 0 → 5 * (n - s.1) + 2 ≤ f → (prs (M 931) n f 3 s).2.2.2.2.1 = 0 → 0 ≤ d → d + 2 * (8 - s.2.2.2.2.2.2.1) + 1 ≤ 60 → LSeg s (prs (M 931) n f 3 s) d (d + 1)
def LG4 (M : jM) (n : Int) (f : Nat) : Prop := ∀ (s : PS) (d : Int), PI n s → s.2.2.2.2.1 = 0 → 5 * (n - s.1) + 3 ≤ f → (prs (M 931) n f 4 s).2.2.2.2.1 = 0 → 0 ≤ d → d + 2 * (8 - s.2.2.2.2.2.2.1) + 2 ≤ 60 → LSeg s (prs (M 931) n f 4 s) d (d + 1)
theorem lg_0 {M : jM} {n : Int} (hT : RT M n) {f : Nat} (ih0 : LG0 M n f) (ih4 : LG4 M n f) : LG0 M n (f + 1) := by
  intro s d hI hw hm hz h1 hd
  have i0 := hI.1
  have d0 := hI.2.2.2.2.2.1
  have ep : prs (M 931) n (f + 1) 0 s = (if s.2.2.1 = 13 then (if s.2.2.2.2.2.2.1 = 8 then pFail 5 s else pEm 13 (pOut (prs (M 931) n f 0 (pIn (pNext (M 931) n s))))) else if s.2.2.1 = 23 then (if s.2.2.2.2.2.2.1 = 8 then pFail 5 s else pMust (M 931) n 24 (pOut (prs (M 931) n f 4 (pIn (pNext (M 931) n s))))) else pAtom (M 931) n s) := by
    rw [prs, if_pos rfl, if_neg (by omega)]
  rw [ep] at hz ⊢
  have k1 := pk_next hT hI hw
  have x1 := hI.2.1.2.2.1
  have x2 := hI.2.1.2.2.2
  by_cases c : s.2.2.1 = 13
  · rw [if_pos c] at hz ⊢
    by_cases c8 : s.2.2.2.2.2.2.1 = 8
    · rw [if_pos c8] at hz
      exact absurd hz (pk_fail (f := 5) (by omega) hI).2
    · rw [if_neg c8] at hz ⊢
      have i2 : PI n (pIn (pNext (M 931) n s)) := pi_in k1.1.1 c8
      have q2 := prs_ok hT f 0 _ i2
      have w2 := em_w hz
      have w3 : (prs (M 931) n f 0 (pIn (pNext (M 931) n s))).2.2.2.2.1 = 0 := w2.1
      have pp : (pIn (pNext (M 931) n s)).1 = (pNext (M 931) n s).1 := rfl
      have pd : (pIn (pNext (M 931) n s)).2.2.2.2.2.2.1 = s.2.2.2.2.2.2.1 + 1 := rfl
      have b1 := k1.2
      have g := ih0 _ d i2 hw (by omega) w3 h1 (by omega)
      have g2 : LSeg s (pOut (prs (M 931) n f 0 (pIn (pNext (M 931) n s)))) d (d + 1) := g
      have st2 : s.2.2.2.2.2.2.2.1 ≤ (pOut (prs (M 931) n f 0 (pIn (pNext (M 931) n s)))).2.2.2.2.2.2.2.1 := q2.2.2.2.1
      rw [w2.2]
      exact g2.step st2 (LSeg.not (by omega))
  · rw [if_neg c] at hz ⊢
    by_cases c2 : s.2.2.1 = 23
    · rw [if_pos c2] at hz ⊢
      by_cases c8 : s.2.2.2.2.2.2.1 = 8
      · rw [if_pos c8] at hz
        exact absurd hz (pk_fail (f := 5) (by omega) hI).2
      · rw [if_neg c8] at hz ⊢
        have i2 : PI n (pIn (pNext (M 931) n s)) := pi_in k1.1.1 c8
        have q2 := prs_ok hT f 4 _ i2
        have w2 := must_ok hz
        have w3 : (prs (M 931) n f 4 (pIn (pNext (M 931) n s))).2.2.2.2.1 = 0 := w2.1
        have pp : (pIn (pNext (M 931) n s)).1 = (pNext (M 931) n s).1 := rfl
        have pd : (pIn (pNext (M 931) n s)).2.2.2.2.2.2.1 = s.2.2.2.2.2.2.1 + 1 := rfl
        have b1 := k1.2
        have g := ih4 _ d i2 hw (by omega) w3 h1 (by omega)
        have g2 : LSeg s (pOut (prs (M 931) n f 4 (pIn (pNext (M 931) n s)))) d (d + 1) := g
        rw [w2.2.2]
        exact g2.eqr rfl rfl
    · rw [if_neg c2] at hz ⊢
      unfold pAtom at hz ⊢
      by_cases c3 : 14 ≤ s.2.2.1 ∧ s.2.2.1 ≤ 19
      · rw [if_pos c3] at hz ⊢
        have ka : PK n (pNext (M 931) n s) (pAt2 (M 931) n s) := by
          unfold pAt2
          split
          · exact PK.rf k1.1.1
          · exact pk_read hT k1.1.1
        have es : (pAt2 (M 931) n s).2.2.2.2.2.2.2.1 = s.2.2.2.2.2.2.2.1 := congrArg (fun z => z.2.1) ka.2.2.2
        by_cases c4 : (pAt2 (M 931) n s).2.2.2.2.1 = 0
        · rw [if_pos c4]
          have g := LSeg.push (s := pAt2 (M 931) n s) (v := if s.2.2.1 = 14 then 0 else (pNext (M 931) n s).2.2.2.1) c3 (show d ≤ 60 by omega)
          unfold LSeg at g ⊢
          rw [es] at g
          exact g
        · rw [if_neg c4] at hz
          exact absurd hz c4
      · rw [if_neg c3] at hz
        exact absurd hz (pk_fail (f := 2) (by omega) hI).2
theorem lg_all {M : jM} {n : Int} (hT : RT M n) : ∀ f : Nat, LG0 M n f ∧ LG1 M n f ∧ LG2 M n f ∧ LG3 M n f ∧ LG4 M n f
  | 0 => ⟨fun s d hI _ hm => by have := hI.1; omega, fun s d hI _ hm => by have := hI.1; omega, fun s d hI _ hm => by have := hI.1; omega, fun s d hI _ hm => by have := hI.1; omega, fun s d hI _ hm => by have := hI.1; omega⟩
  | f + 1 => by
    obtain ⟨ih0, ih1, ih2, ih3, ih4⟩ := lg_all hT f
    refine ⟨lg_0 hT ih0 ih4, ?_, ?_, ?_, ?_⟩
    · intro s d hI hw hm hz h1 hd
      have i0 := hI.1
      rw [prs, if_neg (by decide), if_pos rfl] at hz ⊢
      by_cases c : s.2.2.2.2.1 = 0 ∧ s.2.2.1 = 12
      · rw [if_pos c] at hz ⊢
        have n1 := pq_next hT hI hw (by omega)
        have b1 := (pk_next hT hI hw).2
        have x1 := hI.2.1.2.2.1 (by omega)
        have q2 := prs_ok hT f 0 _ n1.1.1
        have q3 := pq_em0 (k := 12) hI (n1.1.trans q2) hw (by have a := n1.2; have b := q2.2.2.1; omega)
        have q4 := prs_ok hT f 1 _ q3.1
        have w3 := prs_0w hT q3.1 hz
        have w2 := em_w w3
        have g := ih0 _ d n1.1.1 hw (by omega) w2.1 (by omega) (by show d + 2 * (8 - s.2.2.2.2.2.2.1) + _ ≤ 60; omega)
        have g2 : LSeg s (prs (M 931) n f 0 (pNext (M 931) n s)) d (d + 1) := g
        have g3 := g2.step (n1.1.trans q2).2.2.2.1 (LSeg.bin (k := 12) (v := 0) (by omega) (show 2 ≤ d + 1 by omega))
        rw [show d + 1 - 1 = d by omega, ← w2.2] at g3
        have p3 := q3.2.2.2.2.1
        have b3 : (pNext (M 931) n s).1 ≤ (pEm 12 (prs (M 931) n f 0 (pNext (M 931) n s))).1 := by
          rw [w2.2]
          exact q2.2.1
        have g4 := ih1 _ d q3.1 w3 (by omega) hz h1 (by omega)
        exact LSeg.trans hI q3 g3 q4 g4
      · rw [if_neg c]
        exact LSeg.nil rfl
    · intro s d hI hw hm hz h1 hd
      have i0 := hI.1
      rw [prs, if_neg (by decide), if_neg (by decide), if_pos rfl] at hz ⊢
      by_cases c : s.2.2.2.2.1 = 0 ∧ s.2.2.1 = 11
      · rw [if_pos c] at hz ⊢
        have n1 := pq_next hT hI hw (by omega)
        have b1 := (pk_next hT hI hw).2
        have x1 := hI.2.1.2.2.1 (by omega)
        have q2 := prs_ok hT f 3 _ n1.1.1
        have q3 := pq_em0 (k := 11) hI (n1.1.trans q2) hw (by have a := n1.2; have b := q2.2.2.1; omega)
        have q4 := prs_ok hT f 2 _ q3.1
        have w3 := prs_0w hT q3.1 hz
        have w2 := em_w w3
        have g := ih3 _ d n1.1.1 hw (by omega) w2.1 (by omega) (by show d + 2 * (8 - s.2.2.2.2.2.2.1) + _ ≤ 60; omega)
        have g2 : LSeg s (prs (M 931) n f 3 (pNext (M 931) n s)) d (d + 1) := g
        have g3 := g2.step (n1.1.trans q2).2.2.2.1 (LSeg.bin (k := 11) (v := 0) (by omega) (show 2 ≤ d + 1 by omega))
        rw [show d + 1 - 1 = d by omega, ← w2.2] at g3
        have p3 := q3.2.2.2.2.1
        have b3 : (pNext (M 931) n s).1 ≤ (pEm 11 (prs (M 931) n f 3 (pNext (M 931) n s))).1 := by
          rw [w2.2]
          exact q2.2.1
        have g4 := ih2 _ d q3.1 w3 (by omega) hz h1 (by omega)
        exact LSeg.trans hI q3 g3 q4 g4
      · rw [if_neg c]
        exact LSeg.nil rfl
    · intro s d hI hw hm hz h1 hd
      have i0 := hI.1
      rw [prs, if_neg (by decide), if_neg (by decide), if_neg (by decide), if_pos rfl] at hz ⊢
      have q1 := prs_ok hT f 0 s hI
      have q2 := prs_ok hT f 1 _ q1.1
      have w1 := prs_0w hT q1.1 hz
      have a := q1.2.1
      have b := q1.2.2.2.2.1
      have g1 := ih0 s d hI hw (by omega) w1 h1 (by omega)
      have g2 := ih1 _ (d + 1) q1.1 w1 (by omega) hz (by omega) (by omega)
      exact LSeg.trans hI q1 g1 q2 g2
    · intro s d hI hw hm hz h1 hd
      have i0 := hI.1
      rw [prs, if_neg (by decide), if_neg (by decide), if_neg (by decide), if_neg (by decide)] at hz ⊢
      have q1 := prs_ok hT f 3 s hI
      have q2 := prs_ok hT f 2 _ q1.1
      have w1 := prs_0w hT q1.1 hz
      have a := q1.2.1
      have b := q1.2.2.2.2.1
      have g1 := ih3 s d hI hw (by omega) w1 h1 (by omega)
      have g2 := ih2 _ (d + 1) q1.1 w1 (by omega) hz (by omega) (by omega)
      exact LSeg.trans hI q1 g1 q2 g2
def RLks (s : PS) : Prop := ∀ k : Int, 0 ≤ k → k < s.2.2.2.2.2.2.2.2.2 65 → (0 ≤ s.2.2.2.2.2.2.2.2.2 (66 + k) ∧ s.2.2.2.2.2.2.2.2.2 (66 + k) ≤ s.2.2.2.2.2.2.2.2.2 (74 + k) ∧ s.2.2.2.2.2.2.2.2.2 (74 + k) ≤ s.2.2.2.2.2.2.2.1) ∧ LRun s.2.2.2.2.2.2.2.2.2 (s.2.2.2.2.2.2.2.2.2 (74 + k) - s.2.2.2.2.2.2.2.2.2 (66 + k)).toNat (s.2.2.2.2.2.2.2.2.2 (66 + k)) 0 1
theorem rl_look {M : jM} {n : Int} {s : PS} (hT : RT M n) (hI : PI n s) (hw : s.2.2.2.2.1 = 0) (hdp : s.2.2.2.2.2.2.1 = 0) (hR : RLks s) (hz : (pLook (M 931) n s).2.2.2.2.1 = 0) : RLks (pLook (M 931) n s) := by
  unfold pLook at hz ⊢
  by_cases c : s.2.2.1 ≠ 9
  · rw [if_pos c] at hz
    exact absurd hz (pk_fail (f := 2) (by omega) hI).2
  · rw [if_neg c] at hz ⊢
    by_cases c8 : s.2.2.2.2.2.2.2.2.2 65 = 8
    · rw [if_pos c8] at hz
      exact absurd hz (pk_fail (f := 4) (by omega) hI).2
    · rw [if_neg c8] at hz ⊢
      have m8 := hI.2.2.2.2.2.2.2.1
      have k1 := pk_k1 hT hI hw
      have k3 := pq_k3 hT hI hw
      have k5 := pk_k5 hT hI hw
      have e65 := k5_65 hT hI hw
      have i2 := pi_k2 hT hI hw
      have hz5 : (pK5 (M 931) n s).2.2.2.2.1 = 0 := hz
      have w4 := (must_ok (M := M) (n := n) (s := pK4 (M 931) n s) hz5).1
      have w3 : (pK3 (M 931) n s).2.2.2.2.1 = 0 := w4
      have w2 := prs_0w hT (f := 2010) (m := 4) i2 w3
      have dp2 : (pK2 (M 931) n s).2.2.2.2.2.2.1 = 0 := by
        have e : (pK2 (M 931) n s).2.2.2.2.2.2.1 = (pK1 (M 931) n s).2.2.2.2.2.2.1 := rfl
        rw [e, show (pK1 (M 931) n s).2.2.2.2.2.2.1 = s.2.2.2.2.2.2.1 from congrArg (fun z => z.1) k1.1.2.2.2, hdp]
      have st2 : (pK2 (M 931) n s).2.2.2.2.2.2.2.1 = s.2.2.2.2.2.2.2.1 := congrArg (fun z => z.2.1) k1.1.2.2.2
      have qs := k3.1.2.2.2.2.1
      have q2 := i2.2.2.2.2.1
      have q22 := i2.1
      have hn := hT.2.1
      have seg := (lg_all hT 2010).2.2.2.2 (pK2 (M 931) n s) 0 i2 w2 (by omega) w3 (Int.le_refl 0) (by omega)
      have f : ∀ i : Int, i ≠ 65 → (pK6 (M 931) n s).2.2.2.2.2.2.2.2.2 i = (pK5 (M 931) n s).2.2.2.2.2.2.2.2.2 i := fun i hi => k6_a hi
      have f65 : (pK6 (M 931) n s).2.2.2.2.2.2.2.2.2 65 = s.2.2.2.2.2.2.2.2.2 65 + 1 := by rw [k6_v, e65]
      have s5 : (pK6 (M 931) n s).2.2.2.2.2.2.2.1 = (pK3 (M 931) n s).2.2.2.2.2.2.2.1 := congrArg (fun z => z.2.1) k5.2.2.2
      have f3 : ∀ i : Int, i ≠ 65 → i ≠ 74 + s.2.2.2.2.2.2.2.2.2 65 → (pK6 (M 931) n s).2.2.2.2.2.2.2.2.2 i = (pK3 (M 931) n s).2.2.2.2.2.2.2.2.2 i := fun i a b => by
        rw [f i a, k5.pa, k4_a b]
      have a74 : (pK6 (M 931) n s).2.2.2.2.2.2.2.2.2 (74 + s.2.2.2.2.2.2.2.2.2 65) = (pK3 (M 931) n s).2.2.2.2.2.2.2.1 := by
        rw [f _ (by omega), k5.pa, k4_v]
      have a66 : (pK6 (M 931) n s).2.2.2.2.2.2.2.2.2 (66 + s.2.2.2.2.2.2.2.2.2 65) = s.2.2.2.2.2.2.2.1 := by
        rw [f3 _ (by omega) (by omega), k3.2.2.2.2.2.1 _ (by omega), k2_v]
        exact congrArg (fun z => z.2.1) k1.1.2.2.2
      have fo : ∀ i : Int, i ≠ 65 → i ≠ 74 + s.2.2.2.2.2.2.2.2.2 65 → i ≠ 66 + s.2.2.2.2.2.2.2.2.2 65 → i < 82 + 2 * s.2.2.2.2.2.2.2.1 → (pK6 (M 931) n s).2.2.2.2.2.2.2.2.2 i = s.2.2.2.2.2.2.2.2.2 i := fun i a b d u => by
        rw [f3 i a b, k3.2.2.2.2.2.1 i (by omega), k2_a d hT hI hw]
      have g3 := k3.2.2.2.1
      intro k a b
      rw [f65] at b
      by_cases ck : k = s.2.2.2.2.2.2.2.2.2 65
      · rw [ck, a74, a66]
        refine ⟨by omega, ?_⟩
        unfold LSeg at seg
        rw [st2] at seg
        exact LRun.cong _ _ _ seg (fun j u v => f3 _ (by omega) (by omega))
      · have h := hR k a (by omega)
        rw [fo (74 + k) (by omega) (by omega) (by omega) (by omega), fo (66 + k) (by omega) (by omega) (by omega) (by omega)]
        refine ⟨by omega, ?_⟩
        exact LRun.cong _ _ _ h.2 (fun j u v => fo _ (by omega) (by omega) (by omega) (by omega))
theorem top_law {M : jM} {n : Int} (hT : RT M n) : ∀ (f : Nat) (s : PS), PI n s → RLaw s.2.2.2.2.2.2.2.2.2 0 → (pTop (M 931) n 0 f s).2.2.2.2.1 = 0 → RLaw (pTop (M 931) n 0 f s).2.2.2.2.2.2.2.2.2 0
  | 0, _, _, h, _ => h
  | f + 1, s, hI, h, hz => by
    rw [pTop] at hz ⊢
    split
    · rename_i c
      rw [if_pos c] at hz
      rw [if_pos rfl] at hz ⊢
      have g := (pg_line hT hI c.1 c.2).1
      by_cases w : (pLine (M 931) n s).2.2.2.2.1 = 0
      · exact top_law hT f _ g (line_law hT hI c.1 w h) hz
      · exfalso
        have e : pTop (M 931) n 0 f (pLine (M 931) n s) = pLine (M 931) n s := by
          cases f with
          | zero => rfl
          | succ f => rw [pTop, if_neg (by omega)]
        rw [e] at hz
        exact w hz
    · exact h
theorem top_look {M : jM} {n : Int} (hT : RT M n) : ∀ (f : Nat) (s : PS), PI n s → s.2.2.2.2.2.2.1 = 0 → RLks s → (pTop (M 931) n 1 f s).2.2.2.2.1 = 0 → RLks (pTop (M 931) n 1 f s)
  | 0, _, _, _, h, _ => h
  | f + 1, s, hI, hd, h, hz => by
    rw [pTop] at hz ⊢
    split
    · rename_i c
      rw [if_pos c] at hz
      rw [if_neg (by decide)] at hz ⊢
      have g := pg_look hT hI c.1 c.2
      by_cases w : (pLook (M 931) n s).2.2.2.2.1 = 0
      · exact top_look hT f _ g.1 (by rw [g.2.2.2.1, hd]) (rl_look hT hI c.1 hd h w) hz
      · exfalso
        have e : pTop (M 931) n 1 f (pLook (M 931) n s) = pLook (M 931) n s := by
          cases f with
          | zero => rfl
          | succ f => rw [pTop, if_neg (by omega)]
        rw [e] at hz
        exact w hz
    · exact h
