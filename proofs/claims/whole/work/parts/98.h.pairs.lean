/-! BEST *** the reference: the item is placed, or the one ahead is next *** -/
theorem lm_put {X : jX} {M Y : jM} {Q : Int → jM → Prop} {L : List Int} {row nn : Int} {N : Nat} (hB : BF M L row N) (hnn : nn = N) {j : Nat} (hj : j < N) {b sum at5 rk w : Int} (hat : at5 = j) (hwv : w = M 948 (40 * row + j)) (hb : -1 ≤ b ∧ b ≤ 100000) (hP : Plc M Y L row j sum) (hrk : 0 ≤ rk ∧ rk ≤ M 929 1761) (hfit : rk < M 929 1761 → bSz M L j ≤ Y 936 rk) (h0 : rk = M 929 1761 → ∀ a : Int, a = at5 - 1 → jE X yX12_findsRacks cX12_findsRacks 9 (some .int) 3 Q Y 46 [(0, jR 928), (1, jI row), (2, jI nn), (3, jI b), (4, jI sum), (5, jI a)] []) (h1 : rk < M 929 1761 → j + 1 < N → ∀ s2 : Int, s2 = sum + bW M row j * bSt M rk → ∀ Z : jM, Plc M Z L row (j + 1) s2 → Z 934 j = rk → Z 934 (j + 1) = -1 → (∀ i : Int, 0 ≤ i → i < j → Z 934 i = Y 934 i) → Z 935 = Y 935 → ∀ a : Int, a = at5 + 1 → jE X yX12_findsRacks cX12_findsRacks 9 (some .int) 3 Q Z 46 [(0, jR 928), (1, jI row), (2, jI nn), (3, jI b), (4, jI s2), (5, jI a)] []) (h2 : rk < M 929 1761 → j + 1 = N → ∀ s2 : Int, s2 = sum + bW M row j * bSt M rk → ∀ Z : jM, Plc M Z L row (j + 1) s2 → Z 934 j = rk → (∀ i : Int, 0 ≤ i → i < j → Z 934 i = Y 934 i) → (∀ i : Int, 0 ≤ i → i < N → Z 935 i = Z 934 i) → jE X yX12_findsRacks cX12_findsRacks 9 (some .int) 3 Q Z 46 [(0, jR 928), (1, jI row), (2, jI nn), (3, jI s2), (4, jI s2), (5, jI at5)] []) : jE X yX12_findsRacks cX12_findsRacks 9 (some .int) 3 Q Y 190 [(0, jR 928), (1, jI row), (2, jI nn), (3, jI b), (4, jI sum), (5, jI at5), (6, jI rk), (7, jI w)] [] := by
  subst hat
  have hU : LooseU M Y L := hP.1
  have hS := hU.1
  have hC := hB.1
  have hsr := hP.sum_rng hB (by omega)
  have hCY := hS.cr hC
  have e9 := hS.row
  have hn := hCY.cnt
  have hg := hCY.rng
  have e71 : Y 929 3895 = M 929 3895 := by rw [e9]
  have e72 : Y 929 709 = M 929 709 := by rw [e9]
  have hN := hB.2.2.1
  have hrow := hB.2.2.2.1
  have e948 : Y 948 = M 948 := funext fun q => hS 948 q (by omega) (by omega)
  have e61 : Y 929 1761 = M 929 1761 := by rw [e9]
  have hit := hB.item hU hj
  have hit0 := hit.1
  have hpr := hCY.plr (p := Y 933 j) hit0.1 (by omega)
  have hsz := hB.sz (j := j) (by omega) (by omega)
  have hitY : Y 929 (583 + Y 929 (710 + Y 933 j)) = bSz M L j := by
    rw [e9]
    exact hit.2
  have hw := hB.2.2.2.2.2 j (by omega) (by omega)
  refine e_iload 192 dX12_findsRacks_190 rfl rfl ?_
  refine e_aload_n (i := 0) 193 dX12_findsRacks_192 rfl rfl rfl ?_
  refine e_getr (j := 1) 196 fl_12_13 dX12_findsRacks_193 at_928 rfl rfl tp_928_1 rfl ?_
  refine e_sipush 199 dX12_findsRacks_196 (by decide) rfl ?_
  refine e_iald 200 dX12_findsRacks_199 ar_929 (by decide) (by decide) rfl (fun r199 => ?_)
  refine e_icmp_ne 203 209 dX12_findsRacks_200 (by omega) (by omega) (by decide) rfl (fun b200 => ?_) (fun b200 => ?_)
  · skip
    have hr : 0 ≤ rk ∧ rk < M 929 1761 := by omega
    have hf := hfit hr.2
    have hrm := hP.room hB (by omega) hr.1 hr.2
    have hk9 := hCY.rk (r := rk) (by omega) (by omega)
    have hk8 := hC.rk hr.1 hr.2
    have hmul := mulB (a := w) (b := M 929 (1772 + rk)) (A := 99) (B := 99) (by omega) hk8.2.2
    refine e_aload_n (i := 0) 210 dX12_findsRacks_209 rfl rfl rfl ?_
    refine e_getr (j := 19) 213 fl_12_33 dX12_findsRacks_210 at_928 rfl rfl tp_928_19 rfl ?_
    refine e_iload 215 dX12_findsRacks_213 rfl rfl ?_
    refine e_iload 217 dX12_findsRacks_215 rfl rfl ?_
    refine e_iast 218 dX12_findsRacks_217 ar_934 (by omega) (by omega) (by omega) rfl ?_
    refine e_aload_n (i := 0) 219 dX12_findsRacks_218 rfl rfl rfl ?_
    refine e_getr (j := 21) 222 fl_12_39 dX12_findsRacks_219 at_928 rfl rfl tp_928_21 rfl ?_
    refine e_iload 224 dX12_findsRacks_222 rfl rfl ?_
    refine e_dup2 225 dX12_findsRacks_224 rfl rfl rfl ?_
    refine e_iald 226 dX12_findsRacks_225 ar_936 (by omega) (by omega) rfl (fun r225 => ?_)
    simp (disch := omega) only [jset_k, jset_j, jset_same, true_and, and_true] at r225 ⊢
    refine e_aload_n (i := 0) 227 dX12_findsRacks_226 rfl rfl rfl ?_
    refine e_aload_n (i := 0) 228 dX12_findsRacks_227 rfl rfl rfl ?_
    refine e_getr (j := 18) 231 fl_12_30 dX12_findsRacks_228 at_928 rfl rfl tp_928_18 rfl ?_
    refine e_iload 233 dX12_findsRacks_231 rfl rfl ?_
    refine e_iald 234 dX12_findsRacks_233 ar_933 (by omega) (by omega) rfl (fun r233 => ?_)
    simp (disch := omega) only [jset_k, jset_j, jset_same, true_and, and_true] at r233 ⊢
    refine e_callV 237 mt_yX12_sizeOf mv_yX12_sizeOf wd_1649 (by decide) dX12_findsRacks_234 at_928 jc_12 rfl rfl rfl (Nat.le_of_ble_eq_true rfl) (jroom (by decide)) rfl (m_sizeOf (by first | omega | (simp (disch := omega) only [jset_k]; omega)) (by first | omega | (simp (disch := omega) only [jset_k]; omega)) ?_)
    dsimp only [jpush]
    simp (disch := omega) only [jset_k, e9]
    refine e_isub 238 dX12_findsRacks_237 rfl ?_
    refine e_iast 239 dX12_findsRacks_238 ar_936 (by omega) (by omega) (by omega) rfl ?_
    refine e_iload 241 dX12_findsRacks_239 rfl rfl ?_
    refine e_iload 243 dX12_findsRacks_241 rfl rfl ?_
    refine e_aload_n (i := 0) 244 dX12_findsRacks_243 rfl rfl rfl ?_
    refine e_getr (j := 1) 247 fl_12_13 dX12_findsRacks_244 at_928 rfl rfl tp_928_1 rfl ?_
    refine e_sipush 250 dX12_findsRacks_247 (by decide) rfl ?_
    refine e_iload 252 dX12_findsRacks_250 rfl rfl ?_
    refine e_iadd 253 dX12_findsRacks_252 rfl ?_
    refine e_iald 254 dX12_findsRacks_253 ar_929 (by omega) (by omega) rfl (fun r253 => ?_)
    simp (disch := omega) only [jset_k, jset_j, jset_same, true_and, and_true, e9] at r253 ⊢
    have hU2 := (hU.oth (k := 934) (i := j) (v := rk) (by omega)).oth (k := 936) (i := rk) (v := Y 936 rk - M 929 (583 + M 929 (710 + Y 933 j))) (by omega)
    have hadd := hP.add (r := rk) (Z := jset (jset Y 934 j rk) 936 rk (Y 936 rk - M 929 (583 + M 929 (710 + Y 933 j)))) (by omega) hU2 (by rw [row_k (by omega), jset_same]) (fun i a b => by rw [row_k (by omega), jset_j (by omega)]) (by rw [jset_same, hit.2]) (by omega) (fun q e => by rw [jset_j e, row_k (by omega)])
    rw [show bW M row j * bSt M rk = w * M 929 (1772 + rk) from by rw [hwv]] at hadd
    refine e_imul 255 dX12_findsRacks_254 rfl ?_
    refine e_iadd 256 dX12_findsRacks_255 rfl ?_
    refine e_istore (lsn := [(4, _), (0, _), (1, _), (2, _), (3, _), (5, _), (6, _), (7, _)]) 258 dX12_findsRacks_256 (by decide) rfl rfl ?_
    refine e_iload 260 dX12_findsRacks_258 rfl rfl ?_
    refine e_iconst 261 dX12_findsRacks_260 rfl ?_
    refine e_iadd 262 dX12_findsRacks_261 rfl ?_
    refine e_iload_n (i := 2) 263 dX12_findsRacks_262 rfl rfl rfl ?_
    refine e_icmp_ge 266 280 dX12_findsRacks_263 (by omega) (by omega) (by decide) rfl (fun b263 => ?_) (fun b263 => ?_)
    · skip
      refine e_iload 282 dX12_findsRacks_280 rfl rfl ?_
      refine e_istore_n (i := 3) (lsn := [(3, _), (4, _), (0, _), (1, _), (2, _), (5, _), (6, _), (7, _)]) 283 dX12_findsRacks_282 rfl (by decide) rfl rfl ?_
      refine e_iconst 284 dX12_findsRacks_283 rfl ?_
      refine e_istore (lsn := [(8, _), (3, _), (4, _), (0, _), (1, _), (2, _), (5, _), (6, _), (7, _)]) 286 dX12_findsRacks_284 (by decide) rfl rfl ?_
      refine e_ls (ls2 := [(0, _), (1, _), (2, _), (3, _), (4, _), (5, _), (8, _)]) rfl ?_
      have hv : ∀ i : Int, 0 ≤ i → i < N → -2147483648 ≤ jset (jset Y 934 j rk) 936 rk (Y 936 rk - M 929 (583 + M 929 (710 + Y 933 j))) 934 i ∧ jset (jset Y 934 j rk) 936 rk (Y 936 rk - M 929 (583 + M 929 (710 + Y 933 j))) 934 i ≤ 2147483647 := fun i a b => by
        have z := (hadd.2.1 i a (by omega)).1
        omega
      refine lm_copy hU2 hnn hN.2 hv (fun Z hZ hO hX => ?_) N 0 (by omega) (by omega) _ hU2 (fun _ _ => rfl) (fun i a b => by omega)
      have e34 : Z 934 = _ := hO 934 (by omega)
      refine h2 hr.2 (by omega) _ (by rw [hwv]) Z (hadd.cong hZ (fun i a b => by rw [e34]) (hO 936 (by omega))) ?_ (fun i a b => ?_) (fun i a b => ?_)
      · rw [e34, row_k (by omega), jset_same]
      · rw [e34, row_k (by omega), jset_j (by omega)]
      · rw [e34]
        exact hX i a b
    · skip
      refine e_iinc (lsn := [(5, _), (4, _), (0, _), (1, _), (2, _), (3, _), (6, _), (7, _)]) 269 dX12_findsRacks_266 rfl (by decide) rfl rfl ?_
      refine e_aload_n (i := 0) 270 dX12_findsRacks_269 rfl rfl rfl ?_
      refine e_getr (j := 19) 273 fl_12_33 dX12_findsRacks_270 at_928 rfl rfl tp_928_19 rfl ?_
      refine e_iload 275 dX12_findsRacks_273 rfl rfl ?_
      refine e_iconst 276 dX12_findsRacks_275 rfl ?_
      refine e_iast 277 dX12_findsRacks_276 ar_934 (by omega) (by omega) (by decide) rfl ?_
      refine e_goto 46 dX12_findsRacks_277 (by decide) ?_
      refine e_ls (ls2 := [(0, _), (1, _), (2, _), (3, _), (4, _), (5, _)]) rfl ?_
      refine h1 hr.2 (by omega) _ (by rw [hwv]) _ (hadd.cong (hU2.oth (by omega)) (fun i a b => by rw [jset_j (by omega)]) (by rw [row_k (by omega)])) ?_ (by rw [jset_same]) (fun i a b => ?_) (by rw [row_k (by omega), row_k (by omega), row_k (by omega)]) _ (by omega)
      · rw [jset_j (by omega), row_k (by omega), jset_same]
      · rw [jset_j (by omega), row_k (by omega), jset_j (by omega)]
  · skip
    refine e_iinc (lsn := [(5, _), (0, _), (1, _), (2, _), (3, _), (4, _), (6, _), (7, _)]) 206 dX12_findsRacks_203 rfl (by decide) rfl rfl ?_
    refine e_goto 46 dX12_findsRacks_206 (by decide) ?_
    refine e_ls (ls2 := [(0, _), (1, _), (2, _), (3, _), (4, _), (5, _)]) rfl ?_
    exact h0 (by omega) _ (by omega)

