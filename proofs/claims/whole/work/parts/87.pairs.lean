/-! BEST *** the class: rack by rack *** -/
theorem LB.z0 {SZ WT FG : Nat → Int} {room steps : Int → Int} {r : Nat} {v : Int} (hW : WT 0 = 0) (hF : FG 0 = 0) (h : LB SZ WT FG room steps r 0 v) : v = 0 := by
  rcases h.1 with ⟨_, b⟩ | ⟨_, b, _⟩
  · exact absurd ((LB.zero hW hF 0).mpr rfl) (b 0)
  · exact (LB.zero hW hF v).mp b
theorem l_po {X : jX} {Y : jM} {Q : Int → jM → Prop} {SZ WT FG : Nat → Int} {room steps : Int → Int} {n r : Nat} {rk rm st all : Int} (hrk : rk = r) (hr : r < 10) (hrm : room r = rm) (hst : steps r = st) (hs0 : 0 ≤ st ∧ st ≤ 99) (hrm0 : -2147483648 ≤ rm ∧ rm ≤ 2147483647) (hn8 : n ≤ 8) (hI : ItemsB SZ WT FG n Y) (h : ∀ W : jM, Oth1 910 Y W → (∀ S : Nat, S < 2 ^ n → LB SZ WT FG room steps (r + 1) S (W 910 S)) → Q 0 W) : ∀ s : Nat, s < 2 ^ n → ∀ W : jM, Oth1 910 Y W → (∀ S : Nat, s < S → S < 2 ^ n → LB SZ WT FG room steps (r + 1) S (W 910 S)) → (∀ S : Nat, S ≤ s → LB SZ WT FG room steps r S (W 910 S)) → ∀ ss : Int, ss = s → jE X yX4_placeOn cX4_placeOn 11 none 2 Q W 4 [(0, jR 903), (1, jI rk), (2, jI rm), (3, jI st), (4, jI all), (5, jI ss)] [] := by
  intro s
  induction s with
  | zero =>
    intro hsn W hO hH hL ss hss
    have h := h W hO (fun S hS => by
      by_cases e : S = 0
      · rw [e]
        have z := LB.z0 hI.1.1 hI.1.2 (hL 0 (by omega))
        rw [z]
        exact LB.zer hI.1.1 hI.1.2
      · exact hH S (by omega) hS)
    refine e_iload 6 dX4_placeOn_4 rfl rfl ?_
    refine e_if_le 9 119 dX4_placeOn_6 (by omega) (by decide) rfl (fun b6 => ?_) (fun b6 => ?_)
    · skip
      refine e_vret dX4_placeOn_119 ?_
      exact h
    · omega
  | succ s ih =>
    intro hsn W hO hH hL ss hss
    have hs8 : 2 ^ n ≤ 256 := Nat.pow_le_pow_right (by decide) hn8
    have h0 := hL (s + 1) (by omega)
    have hb := h0.2
    refine e_iload 6 dX4_placeOn_4 rfl rfl ?_
    refine e_if_le 9 119 dX4_placeOn_6 (by omega) (by decide) rfl (fun b6 => ?_) (fun b6 => ?_)
    · omega
    · skip
      refine e_iload 11 dX4_placeOn_9 rfl rfl ?_
      refine e_istore (lsn := [(6, _), (0, _), (1, _), (2, _), (3, _), (4, _), (5, _)]) 13 dX4_placeOn_11 (by decide) rfl rfl ?_
      refine e_ls (ls2 := [(0, _), (1, _), (2, _), (3, _), (4, _), (5, _), (6, _)]) rfl ?_
      rw [← hss] at h0 hb
      refine l_pp hrk hr hrm hst hs0 hrm0 hn8 hI hss hsn (fun W2 hO2 hH2 hL2 hP2 hB2 => ?_) (s + 1 + 1) (s + 1) (by omega) (Nat.and_self _) W hO hH (fun S a => hL S (by omega)) ?_ (by omega) ss hss _ rfl
      · refine e_iinc (lsn := [(5, _), (0, _), (1, _), (2, _), (3, _), (4, _), (6, _)]) 116 dX4_placeOn_113 rfl (by decide) rfl rfl ?_
        refine e_goto 4 dX4_placeOn_116 (by decide) ?_
        refine e_ls (ls2 := [(0, _), (1, _), (2, _), (3, _), (4, _), (5, _)]) rfl ?_
        refine ih (by omega) W2 hO2 (fun S a b => ?_) (fun S a => hL2 S (by omega)) _ (by omega)
        by_cases e : S = s + 1
        · rw [e, ← hss]
          exact LB.done hP2 hB2
        · exact hH2 S (by omega) b
      · exact (LB.start h0 hI.1.1 hI.1.2).cong (fun q => ⟨fun z => ⟨by rw [z, Nat.zero_and], Or.inl z⟩, fun z => z.2.elim id (fun w => by
          have := (sub_xor n q (s + 1) hsn z.1).1
          omega)⟩)

theorem c_placeOn {Y : jM} {Q : Int → jM → Prop} {SZ WT FG : Nat → Int} {room steps : Int → Int} {n r : Nat} {rk rm st all : Int} (hrk : rk = r) (hr : r < 10) (hrm : room r = rm) (hst : steps r = st) (hs0 : 0 ≤ st ∧ st ≤ 99) (hrm0 : -2147483648 ≤ rm ∧ rm ≤ 2147483647) (hn8 : n ≤ 8) (hI : ItemsB SZ WT FG n Y) (hall : all = ((2 ^ n : Nat) : Int) - 1) (hL : ∀ S : Nat, S < 2 ^ n → LB SZ WT FG room steps r S (Y 910 S)) (h : ∀ W : jM, Oth1 910 Y W → (∀ S : Nat, S < 2 ^ n → LB SZ WT FG room steps (r + 1) S (W 910 S)) → Q 0 W) : jCt yX4_placeOn cX4_placeOn 11 none 2 [jR 903, jI rk, jI rm, jI st, jI all] Y Q := by
  refine jCt_of mt_yX4_placeOn (Nat.le_of_ble_eq_true rfl) (fun X => ?_)
  have hp1 : 0 < 2 ^ n := Nat.pos_of_ne_zero (by simp)
  refine e_iload 2 dX4_placeOn_0 rfl rfl ?_
  refine e_istore (lsn := [(5, _), (0, _), (1, _), (2, _), (3, _), (4, _)]) 4 dX4_placeOn_2 (by decide) rfl rfl ?_
  refine e_ls (ls2 := [(0, _), (1, _), (2, _), (3, _), (4, _), (5, _)]) rfl ?_
  exact l_po hrk hr hrm hst hs0 hrm0 hn8 hI h (2 ^ n - 1) (by omega) Y (fun _ _ => rfl) (fun S a b => by omega) (fun S a => hL S (by omega)) _ (by omega)

