/-! THE RULES of new cells, with their keys said; constructors of small things -/
section RQ
variable {X : jX} {y : MethodName} {cc : ByteArray} {mL : Nat} {ret : Option FieldType} {R : Room} {QF : jQF} {cells slots n : Nat} {N : jN} {M : jM} {pc : Nat} {ls : List (Nat × jV)} {st : List jV}
def jrA (N : jN) (a b z : Int) : jN := fun k j => if k = a ∧ 0 ≤ j ∧ j < z then some (b + j) else N k j
theorem jrA_k {N : jN} {a b z k j : Int} (h : k ≠ a) : jrA N a b z k j = N k j := if_neg fun q => h q.1
theorem jrA_in {N : jN} {a b z k j : Int} (h : k = a) (h0 : 0 ≤ j) (h1 : j < z) : jrA N a b z k j = some (b + j) := if_pos ⟨h, h0, h1⟩
theorem jrA_0 {N : jN} {a b : Int} : jrA N a b 0 = N := by
  funext k j
  exact if_neg fun q => by omega
theorem jrA_s {N : jN} {a b z w v : Int} (hz : 0 ≤ z) (h : w = z) (hv : v = b + z) : jsetN (jrA N a b z) a w (some v) = jrA N a b (z + 1) := by
  subst h
  subst hv
  funext k j
  unfold jsetN jrA
  by_cases c : k = a ∧ j = w
  · rw [if_pos c, if_pos ⟨c.1, by omega, by omega⟩, c.2]
  · rw [if_neg c]
    by_cases d : k = a ∧ 0 ≤ j ∧ j < w
    · rw [if_pos d, if_pos ⟨d.1, by omega, by omega⟩]
    · rw [if_neg d, if_neg (fun q => by
        by_cases e : j = w
        · exact c ⟨q.1, e⟩
        · exact d ⟨q.1, q.2.1, by omega⟩)]
def jKx (n1 : Nat) (N1 : jN) (M1 : jM) : jK := fun _ n N M => n = n1 ∧ N = N1 ∧ M = M1

theorem f_new (q n' c' s' : Nat) {k : Int} {ix ci : Nat} (hc : jCls ci) (hcl : Cond.classLink y.cls ix (jCn ci) ∈ lw_g) (hin : Cond.instantiable (jCn ci) (jnf ci) ∈ lw_g) (hini : Cond.initialized (jCn ci) ∈ lw_g) (hdg : decode cc pc = .ok (.new ix, 3)) (hk : (n : Int) = k) (hsh : jsh k = (ci, jnf ci)) (hM0 : ∀ j, M k j = 0) (hN0 : ∀ j, N k j = none) (hn : n + 1 = n') (hc1 : cells + 1 = c') (hs1 : slots + jnf ci = s') (hce : c' ≤ R.cells) (hsl : s' ≤ R.slots) (hq : pc + 3 = q) (kk : gE X y cc mL ret R QF c' s' n' N M q ls (jR k :: st)) : gE X y cc mL ret R QF cells slots n N M pc ls st := by
  subst hq hn hc1 hs1 hk
  exact e_new _ hc hcl hin hini hdg hsh hM0 hN0 hce hsl rfl kk
theorem f_newarr (q n' c' s' : Nat) {k : Int} {t zn : Nat} {z : Int} {atype : ArrayType} (ht : t < 4) (hat : newarray.typeOf atype = jty t) (hw : Cond.arrayClass (newarray.typeOf atype) ∈ lw_g) (hdg : decode cc pc = .ok (.newarray atype, 2)) (hz0 : 0 ≤ z ∧ z ≤ 20000) (hzn : z.toNat = zn) (hk : (n : Int) = k) (hsh : jsh k = (13 + t, zn)) (hM0 : ∀ j, M k j = 0) (hn : n + 1 = n') (hc1 : cells + 1 = c') (hs1 : slots + zn = s') (hce : c' ≤ R.cells) (hsl : s' ≤ R.slots) (hq : pc + 2 = q) (kk : gE X y cc mL ret R QF c' s' n' N M q ls (jR k :: st)) : gE X y cc mL ret R QF cells slots n N M pc ls (jI z :: st) := by
  subst hq hn hc1 hs1 hk
  subst hzn
  exact e_newarr _ ht hat hw hdg hz0 hsh hM0 hce hsl rfl kk
theorem f_newq (q n' c' s' : Nat) {k : Int} {ix t zn : Nat} {z : Int} {C0 : String} (ht : t < 11) (ht4 : 4 ≤ t) (hty : jty t = .object C0) (hcl : Cond.classLink y.cls ix C0 ∈ lw_g) (hao : C0 ∈ jaO) (hdg : decode cc pc = .ok (.anewarray ix, 3)) (hz0 : 0 ≤ z ∧ z ≤ 20000) (hzn : z.toNat = zn) (hk : (n : Int) = k) (hsh : jsh k = (13 + t, zn)) (hN0 : ∀ j, N k j = none) (hn : n + 1 = n') (hc1 : cells + 1 = c') (hs1 : slots + zn = s') (hce : c' ≤ R.cells) (hsl : s' ≤ R.slots) (hq : pc + 3 = q) (kk : gE X y cc mL ret R QF c' s' n' N M q ls (jR k :: st)) : gE X y cc mL ret R QF cells slots n N M pc ls (jI z :: st) := by
  subst hq hn hc1 hs1 hk
  subst hzn
  exact e_newq _ ht ht4 hty hcl hao hdg hz0 hsh hN0 hce hsl rfl kk
theorem f_mna (q n' c' s' : Nat) {k k1 : Int} {ix zn wn : Nat} {z w : Int} (hcl : Cond.classLink y.cls ix ("[" ++ (FieldType.array .int).toString) ∈ lw_g) (hw : Cond.arrayClass .int ∈ lw_g) (hdg : decode cc pc = .ok (.multianewarray ix 2, 4)) (hz0 : 0 ≤ z ∧ z ≤ 1000) (hw0 : 0 ≤ w ∧ w ≤ 1000) (hzn : z.toNat = zn) (hwn : w.toNat = wn) (hk : (n : Int) = k) (hk1 : k + 1 = k1) (hsh : jsh k = (21, zn)) (hsr : ∀ i : Int, 0 ≤ i → i < z → jsh (k1 + i) = (13, wn)) (hM0 : ∀ i j : Int, 0 ≤ i → i < z → M (k1 + i) j = 0) (hN0 : ∀ j, N k j = none) (hn : n + 1 + zn = n') (hc1 : cells + 1 + zn = c') (hs1 : slots + zn + zn * wn = s') (hce : c' ≤ R.cells) (hsl : s' ≤ R.slots) (hq : pc + 4 = q) (kk : gE X y cc mL ret R QF c' s' n' (jrA N k k1 z) M q ls (jR k :: st)) : gE X y cc mL ret R QF cells slots n N M pc ls (jI w :: jI z :: st) := by
  subst hq hn hc1 hs1 hk1 hk hzn hwn
  exact e_mna _ hcl hw hdg hz0 hw0 hsh hsr hM0 hN0 (by omega) (by omega) rfl kk
theorem f_callI (q n' c' s' : Nat) {y1 : MethodName} {cc1 : ByteArray} {mL1 : Nat} {d1 ix mc ms : Nat} {N1 : jN} {M1 : jM} (hm : jMth y1 cc1 mL1 none 0) (hnm : y1.name = "<init>") (hv : Cond.instanceMethod y1 ∈ lw_g) (hl : (y.cls, ix, y1, "BrassBalls") ∈ jnM) (h80 : mL1 ≤ 80) (hdg : decode cc pc = .ok (.invokespecial ix, 3)) {k : Int} (hrest : (st.map jcat).sum ≤ 8) (hr : jRoom R d1 mc ms cells slots) (hM : jMet X y1 cc1 mL1 none d1 mc ms [jR k] n N M (jKx (n + mc) N1 M1)) (hn : n + mc = n') (hc1 : cells + mc = c') (hs1 : slots + ms = s') (hq : pc + 3 = q) (kk : gE X y cc mL ret R QF c' s' n' N1 M1 q ls st) : gE X y cc mL ret R QF cells slots n N M pc ls (jR k :: st) := by
  subst hn hc1 hs1
  exact e_callI (av := []) q hm hnm hv hl h80 hdg rfl rfl hrest hr hq hM (fun _ _ _ _ h => by
    obtain ⟨rfl, rfl, rfl⟩ := h
    exact ⟨rfl, kk⟩)
theorem f_callIL (q n' c' s' : Nat) {y1 : MethodName} {cc1 : ByteArray} {mL1 : Nat} {d1 ix mc ms : Nat} {N1 : jN} {M1 : jM} (hm : jMth y1 cc1 mL1 none 0) (hnm : y1.name = "<init>") (hv : Cond.instanceMethod y1 ∈ lw_g) (hl : Cond.methodLink y.cls ix y1 ∈ lw_g) (h80 : mL1 ≤ 80) (hdg : decode cc pc = .ok (.invokespecial ix, 3)) {k : Int} (hrest : (st.map jcat).sum ≤ 8) (hr : jRoom R d1 mc ms cells slots) (hM : jMet X y1 cc1 mL1 none d1 mc ms [jR k] n N M (jKx (n + mc) N1 M1)) (hn : n + mc = n') (hc1 : cells + mc = c') (hs1 : slots + ms = s') (hq : pc + 3 = q) (kk : gE X y cc mL ret R QF c' s' n' N1 M1 q ls st) : gE X y cc mL ret R QF cells slots n N M pc ls (jR k :: st) := by
  subst hn hc1 hs1
  exact e_callIL (av := []) q hm hnm hv hl h80 hdg rfl rfl hrest hr hq hM (fun _ _ _ _ h => by
    obtain ⟨rfl, rfl, rfl⟩ := h
    exact ⟨rfl, kk⟩)
theorem f_tald (q : Nat) {i : Nat} {j v : Int} (hi : i < 6) (hdg : decode cc pc = .ok (.iaload, 1)) (h0 : 0 ≤ j) (h1 : j.toNat < (jzt i).length) (hv : (jzt i).getD j.toNat 0 = v) (hq : pc + 1 = q) (kk : gE X y cc mL ret R QF cells slots n N M q ls (jI v :: st)) : gE X y cc mL ret R QF cells slots n N M pc ls (jI j :: jF i :: st) := by
  subst hv
  exact e_tald q hi hdg h0 h1 hq kk
theorem f_iast0 (q : Nat) {k j z v : Int} (hdg : decode cc pc = .ok (.iastore, 1)) (hk : jAr n k 13 z) (h0 : 0 ≤ j) (h1 : j < z) (hv : (-2147483648 ≤ v ∧ v ≤ 2147483647)) (h : M k j = v) (hq : pc + 1 = q) (kk : gE X y cc mL ret R QF cells slots n N M q ls st) : gE X y cc mL ret R QF cells slots n N M pc ls (jI v :: jI j :: jR k :: st) := by
  have e : jset M k j v = M := by
    funext k' j'
    unfold jset
    by_cases h2 : k' = k ∧ j' = j
    · rw [if_pos h2, h2.1, h2.2, h]
    · rw [if_neg h2]
  refine e_iast q hdg hk h0 h1 hv hq ?_
  rw [e]
  exact kk
end RQ
theorem k_Kind {X : jX} {n : Nat} {N : jN} {M : jM} {k : Int} : jMet X yX0_init cX0_init 1 none 1 0 0 [jR k] n N M (jKx (n + 0) N M) := by
  refine jMet_of mt_yX0_init (Nat.le_of_ble_eq_true rfl) ?_
  refine e_aload_n (i := 0) 1 dX0_init_0 rfl rfl rfl ?_
  refine e_objI 4 wd_113 wd_26 wd_27 dX0_init_1 ⟨by decide, by decide⟩ (Nat.le_of_ble_eq_true rfl) rfl ?_
  exact e_vretG dX0_init_4 ⟨rfl, rfl, rfl⟩
theorem k_Person {X : jX} {n : Nat} {N : jN} {M : jM} {k : Int} : jMet X yX3_init cX3_init 1 none 1 0 0 [jR k] n N M (jKx (n + 0) N M) := by
  refine jMet_of mt_yX3_init (Nat.le_of_ble_eq_true rfl) ?_
  refine e_aload_n (i := 0) 1 dX3_init_0 rfl rfl rfl ?_
  refine e_objI 4 wd_147 wd_26 wd_27 dX3_init_1 ⟨by decide, by decide⟩ (Nat.le_of_ble_eq_true rfl) rfl ?_
  exact e_vretG dX3_init_4 ⟨rfl, rfl, rfl⟩
theorem k_Pledge {X : jX} {n : Nat} {N : jN} {M : jM} {k : Int} : jMet X yX5_init cX5_init 1 none 1 0 0 [jR k] n N M (jKx (n + 0) N M) := by
  refine jMet_of mt_yX5_init (Nat.le_of_ble_eq_true rfl) ?_
  refine e_aload_n (i := 0) 1 dX5_init_0 rfl rfl rfl ?_
  refine e_objI 4 wd_178 wd_26 wd_27 dX5_init_1 ⟨by decide, by decide⟩ (Nat.le_of_ble_eq_true rfl) rfl ?_
  exact e_vretG dX5_init_4 ⟨rfl, rfl, rfl⟩
theorem k_Ticket {X : jX} {n : Nat} {N : jN} {M : jM} {k : Int} : jMet X yX10_init cX10_init 1 none 1 0 0 [jR k] n N M (jKx (n + 0) N M) := by
  refine jMet_of mt_yX10_init (Nat.le_of_ble_eq_true rfl) ?_
  refine e_aload_n (i := 0) 1 dX10_init_0 rfl rfl rfl ?_
  refine e_objI 4 wd_252 wd_26 wd_27 dX10_init_1 ⟨by decide, by decide⟩ (Nat.le_of_ble_eq_true rfl) rfl ?_
  exact e_vretG dX10_init_4 ⟨rfl, rfl, rfl⟩
