/-! TEXTS *** the reference, whole -/
def pTop (t : Int → Int) (n what : Int) : Nat → PS → PS
  | 0, s => s
  | f + 1, s => if s.2.2.2.2.1 = 0 ∧ s.2.2.1 ≠ 25 then pTop t n what f (if what = 0 then pLine t n s else pLook t n s) else s
def txA (M : jM) : Int → Int := fun i => if 0 ≤ i ∧ i < 582 then (if i = 28 then 52 else if i = 30 then 2 else 0) else M 932 i
def tx0 (M : jM) : PS := (M 928 6, 0, M 928 9, M 928 10, 0, M 928 12, 0, 0, 0, txA M)
def txZ (M : jM) (n what : Int) : PS := pTop (M 931) n what 500 (pNext (M 931) n (tx0 M))
def txAns (what : Int) (z : PS) : Int := if z.2.2.2.2.1 ≠ 0 then -10 - z.2.2.2.2.1 else if what = 0 then z.2.2.2.2.2.2.2.2.2 31 else z.2.2.2.2.2.2.2.2.2 65
def txLo (what : Int) : Int := if what = 0 then 0 else 65
def txHi (what : Int) : Int := if what = 0 then 32 else 582
def TxEnd (M Y : jM) (what : Int) (z : PS) : Prop := (∀ k, k ≠ 928 → k ≠ 929 → k ≠ 932 → Y k = M k) ∧ Y 928 0 = 0 ∧ Y 928 5 = 0 ∧ Y 928 16 = z.2.2.2.2.1 ∧ Y 928 17 = (if z.2.2.2.2.1 = 0 then -1 else z.2.2.2.2.2.1) ∧ (z.2.2.2.2.1 ≠ 0 → Y 929 = M 929) ∧ (z.2.2.2.2.1 = 0 → ∀ i, Y 929 i = if txLo what ≤ i ∧ i < txHi what then z.2.2.2.2.2.2.2.2.2 i else M 929 i)
theorem pi_tx0 {M Y : jM} {n : Int} (hT : RT Y n) (e : Y 931 = M 931) (hv : -2147483648 ≤ M 928 10 ∧ M 928 10 ≤ 2147483647) : PI n (pNext (M 931) n (tx0 M)) := by
  have g := pk_tok hT (b := 0) (v := M 928 10) (by have := hT.2.1; omega) hv
  rw [e] at g
  have f0 : txA M 0 = 0 := rfl
  have f65 : txA M 65 = 0 := rfl
  have f31 : txA M 31 = 0 := rfl
  refine ⟨?_, g.2.1, g.2.2, ⟨Int.le_refl 0, (by decide : (0 : Int) ≤ 5)⟩, ⟨Int.le_refl 0, ?_⟩, ⟨Int.le_refl 0, (by decide : (0 : Int) ≤ 8)⟩, ⟨by show 0 ≤ txA M 0; rw [f0]; decide, by show txA M 0 ≤ 8; rw [f0]; decide⟩, ⟨by show 0 ≤ txA M 65; rw [f65]; decide, by show txA M 65 ≤ 8; rw [f65]; decide⟩, fun i a b => ?_, ?_⟩
  · show 0 ≤ tPl (M 931) n 0 ∧ tPl (M 931) n 0 ≤ tBe (M 931) n (tPl (M 931) n 0) ∧ tBe (M 931) n (tPl (M 931) n 0) ≤ n
    omega
  · show 2 * 0 ≤ tPl (M 931) n 0
    omega
  · have b : i < txA M 0 := b
    rw [f0] at b
    omega
  · show 0 ≤ txA M 31 ∧ ((0 : Int) = 0 → txA M 31 ≤ tPl (M 931) n 0) ∧ txA M 31 ≤ tPl (M 931) n 0 + 1
    rw [f31]
    omega
theorem top_step {M : jM} {n what : Int} {s : PS} (hT : RT M n) (hI : PI n s) (hw : s.2.2.2.2.1 = 0) (hk : s.2.2.1 ≠ 25) : PI n (if what = 0 then pLine (M 931) n s else pLook (M 931) n s) ∧ ((if what = 0 then pLine (M 931) n s else pLook (M 931) n s).2.2.2.2.1 = 0 → s.1 + 1 ≤ (if what = 0 then pLine (M 931) n s else pLook (M 931) n s).1) := by
  split
  · have g := pg_line hT hI hw hk
    exact ⟨g.1, g.2.2.1⟩
  · have g := pg_look hT hI hw hk
    exact ⟨g.1, g.2.2.1⟩
theorem pTop_ok {M : jM} {n what : Int} (hT : RT M n) : ∀ (f : Nat) (s : PS), PI n s → PI n (pTop (M 931) n what f s)
  | 0, _, h => h
  | f + 1, s, h => by
    rw [pTop]
    split
    · rename_i c
      exact pTop_ok hT f _ (top_step hT h c.1 c.2).1
    · exact h
theorem put_self {Y : jM} : put Y (Y 928 6, Y 928 7, Y 928 9, Y 928 10, Y 928 11, Y 928 12, Y 928 13, Y 928 14, Y 928 15, Y 932) = Y := by
  funext k j
  unfold put
  by_cases h : k = 932
  · rw [if_pos h, h]
  · rw [if_neg h]
    by_cases h2 : k = 928
    · rw [if_pos h2, h2]
      dsimp only
      by_cases j6 : j = 6
      · rw [if_pos j6, j6]
      rw [if_neg j6]
      by_cases j7 : j = 7
      · rw [if_pos j7, j7]
      rw [if_neg j7]
      by_cases j9 : j = 9
      · rw [if_pos j9, j9]
      rw [if_neg j9]
      by_cases j10 : j = 10
      · rw [if_pos j10, j10]
      rw [if_neg j10]
      by_cases j11 : j = 11
      · rw [if_pos j11, j11]
      rw [if_neg j11]
      by_cases j12 : j = 12
      · rw [if_pos j12, j12]
      rw [if_neg j12]
      by_cases j13 : j = 13
      · rw [if_pos j13, j13]
      rw [if_neg j13]
      by_cases j14 : j = 14
      · rw [if_pos j14, j14]
      rw [if_neg j14]
      by_cases j15 : j = 15
      · rw [if_pos j15, j15]
      rw [if_neg j15]
    · rw [if_neg h2]
theorem lt_top {X : jX} {Y : jM} {n what : Int} {Q : Int → jM → Prop} (hT : RT Y n) (hwh : 0 ≤ what ∧ what ≤ 1) : ∀ (f : Nat) (s : PS), PI n s → (s.2.2.2.2.1 = 0 → n - s.1 + 1 ≤ f) → jE X yX12_text cX12_text 6 (some .int) 37 Q (put Y (pTop (Y 931) n what f s)) 151 [(0, jR 928), (1, jI what), (2, jI n)] [] → jE X yX12_text cX12_text 6 (some .int) 37 Q (put Y s) 117 [(0, jR 928), (1, jI what), (2, jI n)] [] := by
  intro f
  induction f with
  | zero =>
    intro s hI hf h
    have i0 := hI.1
    rw [pTop] at h
    have hn8 := hT.1
    have hn := hT.2.1
    refine e_aload_n (i := 0) 118 dX12_text_117 rfl rfl rfl ?_
    refine e_geti (j := 11) 121 fl_12_123 dX12_text_118 at_928 (by decide) rfl rfl (fun r118 => ?_)
    simp (disch := omega) only [put_r6, put_w6, put_r7, put_w7, put_r9, put_w9, put_r10, put_w10, put_r11, put_w11, put_r12, put_w12, put_r13, put_w13, put_r14, put_w14, put_r15, put_w15, put_ra, put_r8, put_r0, put_rt, put_wa, u1, u2, hn8] at r118 ⊢
    refine e_if_ne 124 151 dX12_text_121 (by omega) (by decide) rfl (fun b121 => ?_) (fun b121 => ?_)
    · skip
      exact h
    · omega
  | succ f ih =>
    intro s hI hf h
    have i0 := hI.1
    rw [pTop] at h
    have ts := top_step (what := what) hT hI
    have hn8 := hT.1
    have hn := hT.2.1
    refine e_aload_n (i := 0) 118 dX12_text_117 rfl rfl rfl ?_
    refine e_geti (j := 11) 121 fl_12_123 dX12_text_118 at_928 (by decide) rfl rfl (fun r118 => ?_)
    simp (disch := omega) only [put_r6, put_w6, put_r7, put_w7, put_r9, put_w9, put_r10, put_w10, put_r11, put_w11, put_r12, put_w12, put_r13, put_w13, put_r14, put_w14, put_r15, put_w15, put_ra, put_r8, put_r0, put_rt, put_wa, u1, u2, hn8] at r118 ⊢
    refine e_if_ne 124 151 dX12_text_121 (by omega) (by decide) rfl (fun b121 => ?_) (fun b121 => ?_)
    · first
       | (exfalso; omega)
       | (skip
          rw [if_neg (by omega)] at h
          exact h)
    · first
       | (exfalso; omega)
       | (skip
          refine e_aload_n (i := 0) 125 dX12_text_124 rfl rfl rfl ?_
          refine e_geti (j := 9) 128 fl_12_107 dX12_text_125 at_928 (by decide) rfl rfl (fun r125 => ?_)
          simp (disch := omega) only [put_r6, put_w6, put_r7, put_w7, put_r9, put_w9, put_r10, put_w10, put_r11, put_w11, put_r12, put_w12, put_r13, put_w13, put_r14, put_w14, put_r15, put_w15, put_ra, put_r8, put_r0, put_rt, put_wa, u1, u2, hn8] at r125 ⊢
          refine e_bipush 130 dX12_text_128 (by decide) rfl ?_
          refine e_icmp_eq 133 151 dX12_text_130 (by omega) (by decide) (by decide) rfl (fun b130 => ?_) (fun b130 => ?_)
          · first
             | (exfalso; omega)
             | (skip
                rw [if_neg (by omega)] at h
                exact h)
          · first
             | (exfalso; omega)
             | (skip
                refine e_iload_n (i := 1) 134 dX12_text_133 rfl rfl rfl ?_
                refine e_if_ne 137 144 dX12_text_134 (by omega) (by decide) rfl (fun b134 => ?_) (fun b134 => ?_)
                · first
                   | (exfalso; omega)
                   | (skip
                      refine e_aload_n (i := 0) 145 dX12_text_144 rfl rfl rfl ?_
                      refine e_callV 148 mt_yX12_readLook mv_yX12_readLook wd_1448 (by decide) dX12_text_145 at_928 jc_12 rfl rfl rfl (Nat.le_of_ble_eq_true rfl) (jroom (by decide)) rfl (m_look hT hI (by (try simp (disch := omega) only [put_r6, put_w6, put_r7, put_w7, put_r9, put_w9, put_r10, put_w10, put_r11, put_w11, put_r12, put_w12, put_r13, put_w13, put_r14, put_w14, put_r15, put_w15, put_ra, put_r8, put_r0, put_rt, put_wa, u1, u2, hn8]); omega) (by (try simp (disch := omega) only [put_r6, put_w6, put_r7, put_w7, put_r9, put_w9, put_r10, put_w10, put_r11, put_w11, put_r12, put_w12, put_r13, put_w13, put_r14, put_w14, put_r15, put_w15, put_ra, put_r8, put_r0, put_rt, put_wa, u1, u2, hn8]); omega) ?_)
                      dsimp only [jpush]
                      (try simp (disch := omega) only [put_r6, put_w6, put_r7, put_w7, put_r9, put_w9, put_r10, put_w10, put_r11, put_w11, put_r12, put_w12, put_r13, put_w13, put_r14, put_w14, put_r15, put_w15, put_ra, put_r8, put_r0, put_rt, put_wa, u1, u2, hn8])
                      refine e_goto 117 dX12_text_148 (by decide) ?_
                      have c1 := ts (by omega) (by omega)
                      rw [if_pos (by omega)] at h
                      rw [if_neg (by omega)] at c1 h
                      exact ih _ c1.1 (fun e => by
                        have := c1.2 e
                        omega) h)
                · first
                   | (exfalso; omega)
                   | (skip
                      refine e_aload_n (i := 0) 138 dX12_text_137 rfl rfl rfl ?_
                      refine e_callV 141 mt_yX12_readLine mv_yX12_readLine wd_1414 (by decide) dX12_text_138 at_928 jc_12 rfl rfl rfl (Nat.le_of_ble_eq_true rfl) (jroom (by decide)) rfl (m_line hT hI (by (try simp (disch := omega) only [put_r6, put_w6, put_r7, put_w7, put_r9, put_w9, put_r10, put_w10, put_r11, put_w11, put_r12, put_w12, put_r13, put_w13, put_r14, put_w14, put_r15, put_w15, put_ra, put_r8, put_r0, put_rt, put_wa, u1, u2, hn8]); omega) (by (try simp (disch := omega) only [put_r6, put_w6, put_r7, put_w7, put_r9, put_w9, put_r10, put_w10, put_r11, put_w11, put_r12, put_w12, put_r13, put_w13, put_r14, put_w14, put_r15, put_w15, put_ra, put_r8, put_r0, put_rt, put_wa, u1, u2, hn8]); omega) ?_)
                      dsimp only [jpush]
                      (try simp (disch := omega) only [put_r6, put_w6, put_r7, put_w7, put_r9, put_w9, put_r10, put_w10, put_r11, put_w11, put_r12, put_w12, put_r13, put_w13, put_r14, put_w14, put_r15, put_w15, put_ra, put_r8, put_r0, put_rt, put_wa, u1, u2, hn8])
                      refine e_goto 117 dX12_text_141 (by decide) ?_
                      have c1 := ts (by omega) (by omega)
                      rw [if_pos (by omega)] at h
                      rw [if_pos (by omega)] at c1 h
                      exact ih _ c1.1 (fun e => by
                        have := c1.2 e
                        omega) h)))

theorem lt_fresh {X : jX} {M Y0 : jM} {n what : Int} {Q : Int → jM → Prop} (hq : ∀ Y : jM, (∀ k, k ≠ 932 → Y k = Y0 k) → (∀ i : Int, Y 932 i = if 0 ≤ i ∧ i < 582 then (if i = 28 then 52 else if i = 30 then 2 else 0) else Y0 932 i) → jE X yX12_text cX12_text 6 (some .int) 37 Q Y 113 [(0, jR 928), (1, jI what), (2, jI n)] []) : ∀ (k : Nat) (x : Int), 0 ≤ x → x + k = 582 → ∀ Y : jM, (∀ k, k ≠ 932 → Y k = Y0 k) → (∀ i : Int, Y 932 i = if 0 ≤ i ∧ i < x then (if i = 28 then 52 else if i = 30 then 2 else 0) else Y0 932 i) → jE X yX12_text cX12_text 6 (some .int) 37 Q Y 72 [(0, jR 928), (1, jI what), (2, jI n), (3, jI x)] [] := by
  intro k
  induction k with
  | zero =>
    intro x x0 hx Y hY hA
    have e : x = 582 := by omega
    subst e
    refine e_iload_n (i := 3) 73 dX12_text_72 rfl rfl rfl ?_
    refine e_sipush 76 dX12_text_73 (by decide) rfl ?_
    refine e_icmp_ge 79 113 dX12_text_76 (by omega) (by decide) (by decide) rfl (fun b76 => ?_) (fun b76 => ?_)
    · skip
      refine e_ls (ls2 := [(0, _), (1, _), (2, _)]) rfl ?_
      exact hq Y hY hA
    · omega
  | succ k ih =>
    intro x x0 hx Y hY hA
    refine e_iload_n (i := 3) 73 dX12_text_72 rfl rfl rfl ?_
    refine e_sipush 76 dX12_text_73 (by decide) rfl ?_
    refine e_icmp_ge 79 113 dX12_text_76 (by omega) (by decide) (by decide) rfl (fun b76 => ?_) (fun b76 => ?_)
    · omega
    · skip
      refine e_aload_n (i := 0) 80 dX12_text_79 rfl rfl rfl ?_
      refine e_getr (j := 4) 83 fl_12_24 dX12_text_80 at_928 rfl rfl tp_928_4 rfl ?_
      refine e_iload_n (i := 3) 84 dX12_text_83 rfl rfl rfl ?_
      refine e_iload_n (i := 3) 85 dX12_text_84 rfl rfl rfl ?_
      refine e_bipush 87 dX12_text_85 (by decide) rfl ?_
      refine e_icmp_ne 90 95 dX12_text_87 (by omega) (by decide) (by decide) rfl (fun b87 => ?_) (fun b87 => ?_)
      · skip
        refine e_iload_n (i := 3) 96 dX12_text_95 rfl rfl rfl ?_
        refine e_bipush 98 dX12_text_96 (by decide) rfl ?_
        refine e_icmp_ne 101 105 dX12_text_98 (by omega) (by decide) (by decide) rfl (fun b98 => ?_) (fun b98 => ?_)
        · skip
          refine e_iconst 106 dX12_text_105 rfl ?_
          refine e_iast 107 dX12_text_106 ar_932 (by omega) (by omega) (by decide) rfl ?_
          refine e_iinc (lsn := [(3, _), (0, _), (1, _), (2, _)]) 110 dX12_text_107 rfl (by decide) rfl rfl ?_
          refine e_goto 72 dX12_text_110 (by decide) ?_
          refine e_ls (ls2 := [(0, _), (1, _), (2, _), (3, _)]) rfl ?_
          refine ih _ (by omega) (by omega) _ (fun k hk => by rw [row_k hk]; exact hY k hk) (fun i => ?_)
          by_cases e : i = x
          · rw [e, jset_same, if_pos (by omega), if_neg (by omega), if_neg (by omega)]
          · rw [jset_j e, hA i]
            by_cases c : 0 ≤ i ∧ i < x
            · rw [if_pos c, if_pos (show 0 ≤ i ∧ i < x + 1 by omega)]
            · rw [if_neg c, if_neg (show ¬ (0 ≤ i ∧ i < x + 1) by omega)]
        · skip
          refine e_iconst 102 dX12_text_101 rfl ?_
          refine e_goto 106 dX12_text_102 (by decide) ?_
          refine e_iast 107 dX12_text_106 ar_932 (by omega) (by omega) (by decide) rfl ?_
          refine e_iinc (lsn := [(3, _), (0, _), (1, _), (2, _)]) 110 dX12_text_107 rfl (by decide) rfl rfl ?_
          refine e_goto 72 dX12_text_110 (by decide) ?_
          refine e_ls (ls2 := [(0, _), (1, _), (2, _), (3, _)]) rfl ?_
          refine ih _ (by omega) (by omega) _ (fun k hk => by rw [row_k hk]; exact hY k hk) (fun i => ?_)
          by_cases e : i = x
          · rw [e, jset_same, if_pos (by omega), if_neg (by omega), if_pos (by omega)]
          · rw [jset_j e, hA i]
            by_cases c : 0 ≤ i ∧ i < x
            · rw [if_pos c, if_pos (show 0 ≤ i ∧ i < x + 1 by omega)]
            · rw [if_neg c, if_neg (show ¬ (0 ≤ i ∧ i < x + 1) by omega)]
      · skip
        refine e_bipush 92 dX12_text_90 (by decide) rfl ?_
        refine e_goto 106 dX12_text_92 (by decide) ?_
        refine e_iast 107 dX12_text_106 ar_932 (by omega) (by omega) (by decide) rfl ?_
        refine e_iinc (lsn := [(3, _), (0, _), (1, _), (2, _)]) 110 dX12_text_107 rfl (by decide) rfl rfl ?_
        refine e_goto 72 dX12_text_110 (by decide) ?_
        refine e_ls (ls2 := [(0, _), (1, _), (2, _), (3, _)]) rfl ?_
        refine ih _ (by omega) (by omega) _ (fun k hk => by rw [row_k hk]; exact hY k hk) (fun i => ?_)
        by_cases e : i = x
        · rw [e, jset_same, if_pos (by omega), if_pos (by omega)]
        · rw [jset_j e, hA i]
          by_cases c : 0 ≤ i ∧ i < x
          · rw [if_pos c, if_pos (show 0 ≤ i ∧ i < x + 1 by omega)]
          · rw [if_neg c, if_neg (show ¬ (0 ≤ i ∧ i < x + 1) by omega)]

theorem lt_copy {X : jX} {W0 : jM} {what lo hi : Int} {Q : Int → jM → Prop} (hhi : 0 ≤ lo ∧ lo ≤ hi ∧ hi ≤ 582) (hq : ∀ W : jM, (∀ k, k ≠ 929 → W k = W0 k) → (∀ i : Int, W 929 i = if lo ≤ i ∧ i < hi then W0 932 i else W0 929 i) → jE X yX12_text cX12_text 6 (some .int) 37 Q W 248 [(0, jR 928), (1, jI what)] []) : ∀ (k : Nat) (x : Int), lo ≤ x → x + k = hi → ∀ W : jM, (∀ k, k ≠ 929 → W k = W0 k) → (∀ i : Int, W 929 i = if lo ≤ i ∧ i < x then W0 932 i else W0 929 i) → jE X yX12_text cX12_text 6 (some .int) 37 Q W 221 [(0, jR 928), (1, jI what), (4, jI hi), (5, jI x)] [] := by
  intro k
  induction k with
  | zero =>
    intro x x0 hx W hW hA
    have e : x = hi := by omega
    subst e
    refine e_iload 223 dX12_text_221 rfl rfl ?_
    refine e_iload 225 dX12_text_223 rfl rfl ?_
    refine e_icmp_ge 228 248 dX12_text_225 (by omega) (by omega) (by decide) rfl (fun b225 => ?_) (fun b225 => ?_)
    · skip
      refine e_ls (ls2 := [(0, _), (1, _)]) rfl ?_
      exact hq W hW hA
    · omega
  | succ k ih =>
    intro x x0 hx W hW hA
    have e32 : W 932 = W0 932 := hW 932 (by omega)
    refine e_iload 223 dX12_text_221 rfl rfl ?_
    refine e_iload 225 dX12_text_223 rfl rfl ?_
    refine e_icmp_ge 228 248 dX12_text_225 (by omega) (by omega) (by decide) rfl (fun b225 => ?_) (fun b225 => ?_)
    · omega
    · skip
      refine e_aload_n (i := 0) 229 dX12_text_228 rfl rfl rfl ?_
      refine e_getr (j := 1) 232 fl_12_13 dX12_text_229 at_928 rfl rfl tp_928_1 rfl ?_
      refine e_iload 234 dX12_text_232 rfl rfl ?_
      refine e_aload_n (i := 0) 235 dX12_text_234 rfl rfl rfl ?_
      refine e_getr (j := 4) 238 fl_12_24 dX12_text_235 at_928 rfl rfl tp_928_4 rfl ?_
      refine e_iload 240 dX12_text_238 rfl rfl ?_
      refine e_iald 241 dX12_text_240 ar_932 (by omega) (by omega) rfl (fun r240 => ?_)
      rw [e32] at r240 ⊢
      refine e_iast 242 dX12_text_241 ar_929 (by omega) (by omega) (by omega) rfl ?_
      refine e_iinc (lsn := [(5, _), (0, _), (1, _), (4, _)]) 245 dX12_text_242 rfl (by decide) rfl rfl ?_
      refine e_goto 221 dX12_text_245 (by decide) ?_
      refine e_ls (ls2 := [(0, _), (1, _), (4, _), (5, _)]) rfl ?_
      refine ih _ (by omega) (by omega) _ (fun k hk => by rw [row_k hk]; exact hW k hk) (fun i => ?_)
      by_cases e : i = x
      · rw [e, jset_same, if_pos (by omega)]
      · rw [jset_j e, hA i]
        by_cases c : lo ≤ i ∧ i < x
        · rw [if_pos c, if_pos (by omega)]
        · rw [if_neg c, if_neg (by omega)]

