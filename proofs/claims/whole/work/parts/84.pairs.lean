/-! TRIPS *** the reference, whole *** -/
def LedB (a : Int → Int) (arms : Int) (g : Nat → Int) (b : Nat) (Y : jM) (s : Nat) : Prop := ∀ S : Nat, S < s → S &&& b = S → Lst (tripT a arms) (selF S g 8 0) (-1) (Y 942 S) ∧ (Y 942 S = -1 ∨ (0 ≤ Y 942 S ∧ Y 942 S ≤ 200 * (S : Int)))
theorem LedB.set {a : Int → Int} {arms i v : Int} {g : Nat → Int} {b s : Nat} {Y : jM} (h : LedB a arms g b Y s) (hi : i = s) : LedB a arms g b (jset Y 942 i v) s := fun S hS hb => by
  rw [jset_j (by omega)]
  exact h S hS hb
theorem LedB.put {a : Int → Int} {arms : Int} {g : Nat → Int} {b s : Nat} {Y : jM} (h : LedB a arms g b Y s) (h1 : s &&& b = s → Lst (tripT a arms) (selF s g 8 0) (-1) (Y 942 s) ∧ (Y 942 s = -1 ∨ (0 ≤ Y 942 s ∧ Y 942 s ≤ 200 * (s : Int)))) : LedB a arms g b Y (s + 1) := fun S hS hb => by
  by_cases e : S = s
  · rw [e] at hb ⊢
    exact h1 hb
  · exact h S (by omega) hb
theorem sub_trans {q m b : Nat} (h : q &&& m = q) (h2 : m &&& b = m) : q &&& b = q := sub_of (fun i hi => sub_bits h2 (sub_bits h hi))
theorem xor_sub {q m b : Nat} (h2 : m &&& b = m) (h : q &&& m = q) : (m ^^^ q) &&& b = m ^^^ q := sub_of (fun i hi => by
  rw [Nat.testBit_xor] at hi
  by_cases e : m.testBit i = true
  · exact sub_bits h2 e
  · by_cases e2 : q.testBit i = true
    · exact absurd (sub_bits h e2) e
    · rw [Bool.eq_false_iff.mpr e, Bool.eq_false_iff.mpr e2] at hi
      exact absurd hi (by decide))
theorem lm_tp {X : jX} {M : jM} {Q : Int → jM → Prop} (hC : CR M) {fr bits arms : Int} {b : Nat} (hbb : bits = b) (hb8 : b < 256) (har : 1 ≤ arms ∧ arms ≤ 99) (hok : ∀ p ∈ selF b (fun j => fr + (j : Int)) 8 0, (0 ≤ p ∧ p < M 929 709) ∧ M 929 (950 + p) ≠ -1) {s : Nat} {ss : Int} (hss : ss = s) (hsn : s < 2 ^ 8) (hsb : s &&& b = s) (hq : ∀ W : jM, Scr M W → LedB (M 929) arms (fun j => fr + (j : Int)) b W s → Part (tripT (M 929) arms) (fun j => fr + (j : Int)) 8 s (-1) (fun q => q &&& s = q ∧ 0 < q) (W 942 ss) → (W 942 ss = -1 ∨ (0 ≤ W 942 ss ∧ W 942 ss ≤ 200 * ss)) → jE X yX12_trips cX12_trips 7 (some .int) 3 Q W 256 [(0, jR 928), (1, jI fr), (2, jI bits), (3, jI arms), (4, jI ss), (5, jI 0)] []) : ∀ p0 p : Nat, p < p0 → p &&& s = p → ∀ W : jM, Scr M W → LedB (M 929) arms (fun j => fr + (j : Int)) b W s → Part (tripT (M 929) arms) (fun j => fr + (j : Int)) 8 s (-1) (fun q => (q &&& s = q ∧ 0 < q) ∧ p < q) (W 942 ss) → (W 942 ss = -1 ∨ (0 ≤ W 942 ss ∧ W 942 ss ≤ 200 * ss)) → ∀ pp : Int, pp = p → ∀ x : List (Nat × jV), x = [(0, jR 928), (1, jI fr), (2, jI bits), (3, jI arms), (4, jI ss), (5, jI pp)] → jE X yX12_trips cX12_trips 7 (some .int) 3 Q W 149 x [] := by
  intro p0
  induction p0 with
  | zero =>
    intro p hp
    omega
  | succ p0 ih =>
    intro p hpl hp W hS hL hPart hcr pp hpp x hx
    subst hx
    have hCY := hS.cr hC
    have e9 := hS.row
    have hn := hCY.cnt
    have hg := hCY.rng
    have e71 : W 929 3895 = M 929 3895 := by rw [e9]
    have e72 : W 929 709 = M 929 709 := by rw [e9]
    have hps := sub_xor 8 p s hsn hp
    have hp256 : p < 256 := by omega
    by_cases hp0 : 0 < p
    case neg =>
      have e : p = 0 := by omega
      have e2 : pp = 0 := by omega
      subst e
      rw [e2]
      refine e_iload 151 dX12_trips_149 rfl rfl ?_
      refine e_if_le 154 256 dX12_trips_151 (by decide) (by decide) rfl (fun _ => ?_) (fun h => absurd h (by decide))
      exact hq W hS hL (hPart.cong (fun q => ⟨fun z => z.1, fun z => ⟨z, z.2⟩⟩)) hcr
    case pos =>
      have hnx : jand (pp - 1) ss = (((p - 1) &&& s : Nat) : Int) := by
        rw [show pp - 1 = ((p - 1 : Nat) : Int) by omega, hss]
        exact jand_nat (by omega)
      have hxr : jxor ss pp = ((s ^^^ p : Nat) : Int) := by
        rw [hss, hpp]
        exact jxor_nat (by omega) (by omega)
      have hx2 : s ^^^ p < 256 := by omega
      have hokp := fun x hx => hok x (sel_mem (fun i hi => sub_bits (sub_trans hp hsb) hi) 8 0 hx)
      have hLr := hL (s ^^^ p) (by omega) (xor_sub hsb hp)
      have hLrr := hLr.2
      refine e_iload 151 dX12_trips_149 rfl rfl ?_
      refine e_if_le 154 256 dX12_trips_151 (by omega) (by decide) rfl (fun b151 => ?_) (fun b151 => ?_)
      · omega
      · first
         | (exfalso; omega)
         | (skip
            refine e_aload_n (i := 0) 155 dX12_trips_154 rfl rfl rfl ?_
            refine e_iload_n (i := 1) 156 dX12_trips_155 rfl rfl rfl ?_
            refine e_iload 158 dX12_trips_156 rfl rfl ?_
            refine e_iload_n (i := 3) 159 dX12_trips_158 rfl rfl rfl ?_
            refine e_callV 162 mt_yX12_tripOf mv_yX12_tripOf wd_1767 (by decide) dX12_trips_159 at_928 jc_12 rfl rfl rfl (Nat.le_of_ble_eq_true rfl) (jroom (by decide)) rfl (m_tripOf hC hS hpp hp256 har hokp (fun t159 hT159 hR159 => ?_) (fun hN159 => ?_))
            · dsimp only [jpush]
              first
               | (exfalso; omega)
               | (skip
                  refine e_istore (lsn := [(6, _), (0, _), (1, _), (2, _), (3, _), (4, _), (5, _)]) 164 dX12_trips_162 (by decide) rfl rfl ?_
                  refine e_iload 166 dX12_trips_164 rfl rfl ?_
                  refine e_iconst 167 dX12_trips_166 rfl ?_
                  refine e_icmp_eq 170 244 dX12_trips_167 (by omega) (by decide) (by decide) rfl (fun b167 => ?_) (fun b167 => ?_)
                  · first
                     | (exfalso; omega)
                     | (skip
                        refine e_iload 246 dX12_trips_244 rfl rfl ?_
                        refine e_iconst 247 dX12_trips_246 rfl ?_
                        refine e_isub 248 dX12_trips_247 rfl ?_
                        refine e_iload 250 dX12_trips_248 rfl rfl ?_
                        refine e_iand 251 dX12_trips_250 rfl ?_
                        rw [hnx]
                        refine e_istore (lsn := [(5, _), (6, _), (0, _), (1, _), (2, _), (3, _), (4, _)]) 253 dX12_trips_251 (by decide) rfl rfl ?_
                        refine e_goto 149 dX12_trips_253 (by decide) ?_
                        refine e_ls (ls2 := [(0, _), (1, _), (2, _), (3, _), (4, _), (5, _)]) rfl ?_
                        refine ih ((p - 1) &&& s) (Nat.lt_of_le_of_lt Nat.and_le_left (by omega)) sub_step W hS hL ?_ hcr _ rfl _ rfl
                        have hle : Lst (tripT (M 929) arms) (selF (s ^^^ p) (fun j => fr + (j : Int)) 8 0) (-1) (-1) := by
                          have q := hLr.1
                          rw [show W 942 ((s ^^^ p : Nat) : Int) = -1 by omega] at q
                          exact q
                        exact hPart.skip (q := p) (way_no2 hle) (fun q => ⟨fun z => ((sub_iff hsn hp0 hp z.1.1).mp z.2).imp (fun w => ⟨z.1, w⟩) id, fun z => z.elim (fun w => ⟨w.1, (sub_iff hsn hp0 hp w.1.1).mpr (Or.inl w.2)⟩) (fun w => by rw [w]; exact ⟨⟨hp, hp0⟩, (sub_iff hsn hp0 hp hp).mpr (Or.inr rfl)⟩)⟩))
                  · first
                     | (exfalso; omega)
                     | (skip
                        refine e_aload_n (i := 0) 171 dX12_trips_170 rfl rfl rfl ?_
                        refine e_getr (j := 27) 174 fl_12_57 dX12_trips_171 at_928 rfl rfl tp_928_27 rfl ?_
                        refine e_iload 176 dX12_trips_174 rfl rfl ?_
                        refine e_iload 178 dX12_trips_176 rfl rfl ?_
                        refine e_ixor 179 dX12_trips_178 rfl ?_
                        rw [hxr]
                        refine e_iald 180 dX12_trips_179 ar_942 (by omega) (by omega) rfl (fun r179 => ?_)
                        refine e_iconst 181 dX12_trips_180 rfl ?_
                        refine e_icmp_ne 184 187 dX12_trips_181 (by omega) (by decide) (by decide) rfl (fun b181 => ?_) (fun b181 => ?_)
                        · first
                           | (exfalso; omega)
                           | (skip
                              refine e_iload 189 dX12_trips_187 rfl rfl ?_
                              refine e_aload_n (i := 0) 190 dX12_trips_189 rfl rfl rfl ?_
                              refine e_getr (j := 27) 193 fl_12_57 dX12_trips_190 at_928 rfl rfl tp_928_27 rfl ?_
                              refine e_iload 195 dX12_trips_193 rfl rfl ?_
                              refine e_iload 197 dX12_trips_195 rfl rfl ?_
                              refine e_ixor 198 dX12_trips_197 rfl ?_
                              rw [hxr]
                              refine e_iald 199 dX12_trips_198 ar_942 (by omega) (by omega) rfl (fun r198 => ?_)
                              refine e_iadd 200 dX12_trips_199 rfl ?_
                              refine e_istore (lsn := [(6, _), (0, _), (1, _), (2, _), (3, _), (4, _), (5, _)]) 202 dX12_trips_200 (by decide) rfl rfl ?_
                              refine e_aload_n (i := 0) 203 dX12_trips_202 rfl rfl rfl ?_
                              refine e_getr (j := 27) 206 fl_12_57 dX12_trips_203 at_928 rfl rfl tp_928_27 rfl ?_
                              refine e_iload 208 dX12_trips_206 rfl rfl ?_
                              refine e_aload_n (i := 0) 209 dX12_trips_208 rfl rfl rfl ?_
                              refine e_getr (j := 27) 212 fl_12_57 dX12_trips_209 at_928 rfl rfl tp_928_27 rfl ?_
                              refine e_iload 214 dX12_trips_212 rfl rfl ?_
                              refine e_iald 215 dX12_trips_214 ar_942 (by omega) (by omega) rfl (fun r214 => ?_)
                              refine e_iconst 216 dX12_trips_215 rfl ?_
                              refine e_icmp_eq 219 231 dX12_trips_216 (by omega) (by decide) (by decide) rfl (fun b216 => ?_) (fun b216 => ?_)
                              · first
                                 | (exfalso; omega)
                                 | (skip
                                    refine e_iload 233 dX12_trips_231 rfl rfl ?_
                                    refine e_goto 243 dX12_trips_233 (by decide) ?_
                                    refine e_iast 244 dX12_trips_243 ar_942 (by omega) (by omega) (by omega) rfl ?_
                                    refine e_iload 246 dX12_trips_244 rfl rfl ?_
                                    refine e_iconst 247 dX12_trips_246 rfl ?_
                                    refine e_isub 248 dX12_trips_247 rfl ?_
                                    refine e_iload 250 dX12_trips_248 rfl rfl ?_
                                    refine e_iand 251 dX12_trips_250 rfl ?_
                                    rw [hnx]
                                    refine e_istore (lsn := [(5, _), (6, _), (0, _), (1, _), (2, _), (3, _), (4, _)]) 253 dX12_trips_251 (by decide) rfl rfl ?_
                                    refine e_goto 149 dX12_trips_253 (by decide) ?_
                                    refine e_ls (ls2 := [(0, _), (1, _), (2, _), (3, _), (4, _), (5, _)]) rfl ?_
                                    have hway := way_yes (m := s) hT159 (fun t2 ht2 => hT159.uq ht2) hLr.1 (by omega)
                                    have hrb := hLr.2.resolve_left (by omega)
                                    refine ih ((p - 1) &&& s) (Nat.lt_of_le_of_lt Nat.and_le_left (by omega)) sub_step _ (hS.set (by omega)) (hL.set hss) ?_ ?_ _ rfl _ rfl
                                    · rw [jset_same]
                                      exact hPart.put hway.1 hway.2 (by omega) (fun e => by omega) (fun e => by omega) (fun q => ⟨fun z => ((sub_iff hsn hp0 hp z.1.1).mp z.2).imp (fun w => ⟨z.1, w⟩) id, fun z => z.elim (fun w => ⟨w.1, (sub_iff hsn hp0 hp w.1.1).mpr (Or.inl w.2)⟩) (fun w => by rw [w]; exact ⟨⟨hp, hp0⟩, (sub_iff hsn hp0 hp hp).mpr (Or.inr rfl)⟩)⟩)
                                    · rw [jset_same]
                                      omega)
                              · first
                                 | (exfalso; omega)
                                 | (skip
                                    refine e_iload 221 dX12_trips_219 rfl rfl ?_
                                    refine e_aload_n (i := 0) 222 dX12_trips_221 rfl rfl rfl ?_
                                    refine e_getr (j := 27) 225 fl_12_57 dX12_trips_222 at_928 rfl rfl tp_928_27 rfl ?_
                                    refine e_iload 227 dX12_trips_225 rfl rfl ?_
                                    refine e_iald 228 dX12_trips_227 ar_942 (by omega) (by omega) rfl (fun r227 => ?_)
                                    refine e_icmp_ge 231 236 dX12_trips_228 (by omega) (by omega) (by decide) rfl (fun b228 => ?_) (fun b228 => ?_)
                                    · first
                                       | (exfalso; omega)
                                       | (skip
                                          refine e_aload_n (i := 0) 237 dX12_trips_236 rfl rfl rfl ?_
                                          refine e_getr (j := 27) 240 fl_12_57 dX12_trips_237 at_928 rfl rfl tp_928_27 rfl ?_
                                          refine e_iload 242 dX12_trips_240 rfl rfl ?_
                                          refine e_iald 243 dX12_trips_242 ar_942 (by omega) (by omega) rfl (fun r242 => ?_)
                                          refine e_iast 244 dX12_trips_243 ar_942 (by omega) (by omega) (by omega) rfl ?_
                                          refine e_iload 246 dX12_trips_244 rfl rfl ?_
                                          refine e_iconst 247 dX12_trips_246 rfl ?_
                                          refine e_isub 248 dX12_trips_247 rfl ?_
                                          refine e_iload 250 dX12_trips_248 rfl rfl ?_
                                          refine e_iand 251 dX12_trips_250 rfl ?_
                                          rw [hnx]
                                          refine e_istore (lsn := [(5, _), (6, _), (0, _), (1, _), (2, _), (3, _), (4, _)]) 253 dX12_trips_251 (by decide) rfl rfl ?_
                                          refine e_goto 149 dX12_trips_253 (by decide) ?_
                                          refine e_ls (ls2 := [(0, _), (1, _), (2, _), (3, _), (4, _), (5, _)]) rfl ?_
                                          have hway := way_yes (m := s) hT159 (fun t2 ht2 => hT159.uq ht2) hLr.1 (by omega)
                                          have hrb := hLr.2.resolve_left (by omega)
                                          refine ih ((p - 1) &&& s) (Nat.lt_of_le_of_lt Nat.and_le_left (by omega)) sub_step _ (hS.set (by omega)) (hL.set hss) ?_ ?_ _ rfl _ rfl
                                          · rw [jset_same]
                                            exact hPart.put hway.1 hway.2 (by omega) (fun e => by omega) (fun e => by omega) (fun q => ⟨fun z => ((sub_iff hsn hp0 hp z.1.1).mp z.2).imp (fun w => ⟨z.1, w⟩) id, fun z => z.elim (fun w => ⟨w.1, (sub_iff hsn hp0 hp w.1.1).mpr (Or.inl w.2)⟩) (fun w => by rw [w]; exact ⟨⟨hp, hp0⟩, (sub_iff hsn hp0 hp hp).mpr (Or.inr rfl)⟩)⟩)
                                          · rw [jset_same]
                                            omega)
                                    · first
                                       | (exfalso; omega)
                                       | (skip
                                          refine e_iload 233 dX12_trips_231 rfl rfl ?_
                                          refine e_goto 243 dX12_trips_233 (by decide) ?_
                                          refine e_iast 244 dX12_trips_243 ar_942 (by omega) (by omega) (by omega) rfl ?_
                                          refine e_iload 246 dX12_trips_244 rfl rfl ?_
                                          refine e_iconst 247 dX12_trips_246 rfl ?_
                                          refine e_isub 248 dX12_trips_247 rfl ?_
                                          refine e_iload 250 dX12_trips_248 rfl rfl ?_
                                          refine e_iand 251 dX12_trips_250 rfl ?_
                                          rw [hnx]
                                          refine e_istore (lsn := [(5, _), (6, _), (0, _), (1, _), (2, _), (3, _), (4, _)]) 253 dX12_trips_251 (by decide) rfl rfl ?_
                                          refine e_goto 149 dX12_trips_253 (by decide) ?_
                                          refine e_ls (ls2 := [(0, _), (1, _), (2, _), (3, _), (4, _), (5, _)]) rfl ?_
                                          have hway := way_yes (m := s) hT159 (fun t2 ht2 => hT159.uq ht2) hLr.1 (by omega)
                                          have hrb := hLr.2.resolve_left (by omega)
                                          refine ih ((p - 1) &&& s) (Nat.lt_of_le_of_lt Nat.and_le_left (by omega)) sub_step _ (hS.set (by omega)) (hL.set hss) ?_ ?_ _ rfl _ rfl
                                          · rw [jset_same]
                                            exact hPart.put hway.1 hway.2 (by omega) (fun e => by omega) (fun e => by omega) (fun q => ⟨fun z => ((sub_iff hsn hp0 hp z.1.1).mp z.2).imp (fun w => ⟨z.1, w⟩) id, fun z => z.elim (fun w => ⟨w.1, (sub_iff hsn hp0 hp w.1.1).mpr (Or.inl w.2)⟩) (fun w => by rw [w]; exact ⟨⟨hp, hp0⟩, (sub_iff hsn hp0 hp hp).mpr (Or.inr rfl)⟩)⟩)
                                          · rw [jset_same]
                                            omega)))
                        · first
                           | (exfalso; omega)
                           | (skip
                              refine e_goto 244 dX12_trips_184 (by decide) ?_
                              refine e_iload 246 dX12_trips_244 rfl rfl ?_
                              refine e_iconst 247 dX12_trips_246 rfl ?_
                              refine e_isub 248 dX12_trips_247 rfl ?_
                              refine e_iload 250 dX12_trips_248 rfl rfl ?_
                              refine e_iand 251 dX12_trips_250 rfl ?_
                              rw [hnx]
                              refine e_istore (lsn := [(5, _), (6, _), (0, _), (1, _), (2, _), (3, _), (4, _)]) 253 dX12_trips_251 (by decide) rfl rfl ?_
                              refine e_goto 149 dX12_trips_253 (by decide) ?_
                              refine e_ls (ls2 := [(0, _), (1, _), (2, _), (3, _), (4, _), (5, _)]) rfl ?_
                              refine ih ((p - 1) &&& s) (Nat.lt_of_le_of_lt Nat.and_le_left (by omega)) sub_step W hS hL ?_ hcr _ rfl _ rfl
                              have hle : Lst (tripT (M 929) arms) (selF (s ^^^ p) (fun j => fr + (j : Int)) 8 0) (-1) (-1) := by
                                have q := hLr.1
                                rw [show W 942 ((s ^^^ p : Nat) : Int) = -1 by omega] at q
                                exact q
                              exact hPart.skip (q := p) (way_no2 hle) (fun q => ⟨fun z => ((sub_iff hsn hp0 hp z.1.1).mp z.2).imp (fun w => ⟨z.1, w⟩) id, fun z => z.elim (fun w => ⟨w.1, (sub_iff hsn hp0 hp w.1.1).mpr (Or.inl w.2)⟩) (fun w => by rw [w]; exact ⟨⟨hp, hp0⟩, (sub_iff hsn hp0 hp hp).mpr (Or.inr rfl)⟩)⟩))))
            · dsimp only [jpush]
              first
               | (exfalso; omega)
               | (skip
                  refine e_istore (lsn := [(6, _), (0, _), (1, _), (2, _), (3, _), (4, _), (5, _)]) 164 dX12_trips_162 (by decide) rfl rfl ?_
                  refine e_iload 166 dX12_trips_164 rfl rfl ?_
                  refine e_iconst 167 dX12_trips_166 rfl ?_
                  refine e_icmp_eq 170 244 dX12_trips_167 (by decide) (by decide) (by decide) rfl (fun _ => ?_) (fun h => absurd h (by decide))
                  refine e_iload 246 dX12_trips_244 rfl rfl ?_
                  refine e_iconst 247 dX12_trips_246 rfl ?_
                  refine e_isub 248 dX12_trips_247 rfl ?_
                  refine e_iload 250 dX12_trips_248 rfl rfl ?_
                  refine e_iand 251 dX12_trips_250 rfl ?_
                  rw [hnx]
                  refine e_istore (lsn := [(5, _), (6, _), (0, _), (1, _), (2, _), (3, _), (4, _)]) 253 dX12_trips_251 (by decide) rfl rfl ?_
                  refine e_goto 149 dX12_trips_253 (by decide) ?_
                  refine e_ls (ls2 := [(0, _), (1, _), (2, _), (3, _), (4, _), (5, _)]) rfl ?_
                  refine ih ((p - 1) &&& s) (Nat.lt_of_le_of_lt Nat.and_le_left (by omega)) sub_step W hS hL ?_ hcr _ rfl _ rfl
                  exact hPart.skip (q := p) (way_no1 hN159) (fun q => ⟨fun z => ((sub_iff hsn hp0 hp z.1.1).mp z.2).imp (fun w => ⟨z.1, w⟩) id, fun z => z.elim (fun w => ⟨w.1, (sub_iff hsn hp0 hp w.1.1).mpr (Or.inl w.2)⟩) (fun w => by rw [w]; exact ⟨⟨hp, hp0⟩, (sub_iff hsn hp0 hp hp).mpr (Or.inr rfl)⟩)⟩)))

