/-! BEST *** figures of a key *** no program *** -/
theorem FIGv0 : FIG 0 = 1000000 := by decide +kernel
theorem FIGv1 : FIG 1 = 100000 := by decide +kernel
theorem FIGv2 : FIG 2 = 10000 := by decide +kernel
theorem FIGv3 : FIG 3 = 1000 := by decide +kernel
theorem FIGv4 : FIG 4 = 100 := by decide +kernel
theorem FIGv5 : FIG 5 = 10 := by decide +kernel
theorem FIGv6 : FIG 6 = 1 := by decide +kernel
theorem sumS_all {f : Int → Int} {S : Nat} : ∀ n : Nat, (∀ j, j < n → S.testBit j = true) → sumS f n S = totS f n
  | 0, _ => rfl
  | n + 1, h => by rw [sumS, totS, if_pos (h n (by omega)), sumS_all n (fun j a => h j (by omega))]
theorem tot_key {w steps y : Int → Int} : ∀ n : Nat, totS (itemK w steps y) n = 10000000 * totS (fun j => w j * steps (y j)) n + totS (fun j => y j * FIG j) n
  | 0 => rfl
  | n + 1 => by
    rw [totS, totS, totS, tot_key n]
    unfold itemK
    omega
abbrev Dig (y : Int → Int) (n : Nat) : Prop := ∀ j : Int, 0 ≤ j → j < n → 0 ≤ y j ∧ y j ≤ 9
theorem figs_lt {y : Int → Int} {n : Nat} (hn : 1 ≤ n ∧ n ≤ 7) (hy : Dig y n) : 0 ≤ totS (fun j => y j * FIG j) n ∧ totS (fun j => y j * FIG j) n < 10000000 := by
  have hc : n = 1 ∨ n = 2 ∨ n = 3 ∨ n = 4 ∨ n = 5 ∨ n = 6 ∨ n = 7 := by omega
  rcases hc with e | e | e | e | e | e | e
  · subst e
    have d0 := hy 0 (by omega) (by omega)
    change 0 ≤ (0 + y 0 * FIG 0) ∧ (0 + y 0 * FIG 0) < 10000000
    rw [FIGv0]
    omega
  · subst e
    have d0 := hy 0 (by omega) (by omega)
    have d1 := hy 1 (by omega) (by omega)
    change 0 ≤ ((0 + y 0 * FIG 0) + y 1 * FIG 1) ∧ ((0 + y 0 * FIG 0) + y 1 * FIG 1) < 10000000
    rw [FIGv0, FIGv1]
    omega
  · subst e
    have d0 := hy 0 (by omega) (by omega)
    have d1 := hy 1 (by omega) (by omega)
    have d2 := hy 2 (by omega) (by omega)
    change 0 ≤ (((0 + y 0 * FIG 0) + y 1 * FIG 1) + y 2 * FIG 2) ∧ (((0 + y 0 * FIG 0) + y 1 * FIG 1) + y 2 * FIG 2) < 10000000
    rw [FIGv0, FIGv1, FIGv2]
    omega
  · subst e
    have d0 := hy 0 (by omega) (by omega)
    have d1 := hy 1 (by omega) (by omega)
    have d2 := hy 2 (by omega) (by omega)
    have d3 := hy 3 (by omega) (by omega)
    change 0 ≤ ((((0 + y 0 * FIG 0) + y 1 * FIG 1) + y 2 * FIG 2) + y 3 * FIG 3) ∧ ((((0 + y 0 * FIG 0) + y 1 * FIG 1) + y 2 * FIG 2) + y 3 * FIG 3) < 10000000
    rw [FIGv0, FIGv1, FIGv2, FIGv3]
    omega
  · subst e
    have d0 := hy 0 (by omega) (by omega)
    have d1 := hy 1 (by omega) (by omega)
    have d2 := hy 2 (by omega) (by omega)
    have d3 := hy 3 (by omega) (by omega)
    have d4 := hy 4 (by omega) (by omega)
    change 0 ≤ (((((0 + y 0 * FIG 0) + y 1 * FIG 1) + y 2 * FIG 2) + y 3 * FIG 3) + y 4 * FIG 4) ∧ (((((0 + y 0 * FIG 0) + y 1 * FIG 1) + y 2 * FIG 2) + y 3 * FIG 3) + y 4 * FIG 4) < 10000000
    rw [FIGv0, FIGv1, FIGv2, FIGv3, FIGv4]
    omega
  · subst e
    have d0 := hy 0 (by omega) (by omega)
    have d1 := hy 1 (by omega) (by omega)
    have d2 := hy 2 (by omega) (by omega)
    have d3 := hy 3 (by omega) (by omega)
    have d4 := hy 4 (by omega) (by omega)
    have d5 := hy 5 (by omega) (by omega)
    change 0 ≤ ((((((0 + y 0 * FIG 0) + y 1 * FIG 1) + y 2 * FIG 2) + y 3 * FIG 3) + y 4 * FIG 4) + y 5 * FIG 5) ∧ ((((((0 + y 0 * FIG 0) + y 1 * FIG 1) + y 2 * FIG 2) + y 3 * FIG 3) + y 4 * FIG 4) + y 5 * FIG 5) < 10000000
    rw [FIGv0, FIGv1, FIGv2, FIGv3, FIGv4, FIGv5]
    omega
  · subst e
    have d0 := hy 0 (by omega) (by omega)
    have d1 := hy 1 (by omega) (by omega)
    have d2 := hy 2 (by omega) (by omega)
    have d3 := hy 3 (by omega) (by omega)
    have d4 := hy 4 (by omega) (by omega)
    have d5 := hy 5 (by omega) (by omega)
    have d6 := hy 6 (by omega) (by omega)
    change 0 ≤ (((((((0 + y 0 * FIG 0) + y 1 * FIG 1) + y 2 * FIG 2) + y 3 * FIG 3) + y 4 * FIG 4) + y 5 * FIG 5) + y 6 * FIG 6) ∧ (((((((0 + y 0 * FIG 0) + y 1 * FIG 1) + y 2 * FIG 2) + y 3 * FIG 3) + y 4 * FIG 4) + y 5 * FIG 5) + y 6 * FIG 6) < 10000000
    rw [FIGv0, FIGv1, FIGv2, FIGv3, FIGv4, FIGv5, FIGv6]
    omega
theorem figs_dig {y : Int → Int} {n : Nat} {c i : Int} (hn : 1 ≤ n ∧ n ≤ 7) (hy : Dig y n) (hc0 : 0 ≤ c) (hi : 0 ≤ i ∧ i < n) : (10000000 * c + totS (fun j => y j * FIG j) n) / FIG i % 10 = y i := by
  have hc : n = 1 ∨ n = 2 ∨ n = 3 ∨ n = 4 ∨ n = 5 ∨ n = 6 ∨ n = 7 := by omega
  rcases hc with e | e | e | e | e | e | e
  · subst e
    have d0 := hy 0 (by omega) (by omega)
    have hc : i = 0 := by omega
    have e := hc
    subst e
    change (10000000 * c + (0 + y 0 * FIG 0)) / FIG 0 % 10 = y 0
    rw [FIGv0]
    omega
  · subst e
    have d0 := hy 0 (by omega) (by omega)
    have d1 := hy 1 (by omega) (by omega)
    have hc : i = 0 ∨ i = 1 := by omega
    rcases hc with e | e
    · subst e
      change (10000000 * c + ((0 + y 0 * FIG 0) + y 1 * FIG 1)) / FIG 0 % 10 = y 0
      rw [FIGv0, FIGv1]
      omega
    · subst e
      change (10000000 * c + ((0 + y 0 * FIG 0) + y 1 * FIG 1)) / FIG 1 % 10 = y 1
      rw [FIGv0, FIGv1]
      omega
  · subst e
    have d0 := hy 0 (by omega) (by omega)
    have d1 := hy 1 (by omega) (by omega)
    have d2 := hy 2 (by omega) (by omega)
    have hc : i = 0 ∨ i = 1 ∨ i = 2 := by omega
    rcases hc with e | e | e
    · subst e
      change (10000000 * c + (((0 + y 0 * FIG 0) + y 1 * FIG 1) + y 2 * FIG 2)) / FIG 0 % 10 = y 0
      rw [FIGv0, FIGv1, FIGv2]
      omega
    · subst e
      change (10000000 * c + (((0 + y 0 * FIG 0) + y 1 * FIG 1) + y 2 * FIG 2)) / FIG 1 % 10 = y 1
      rw [FIGv0, FIGv1, FIGv2]
      omega
    · subst e
      change (10000000 * c + (((0 + y 0 * FIG 0) + y 1 * FIG 1) + y 2 * FIG 2)) / FIG 2 % 10 = y 2
      rw [FIGv0, FIGv1, FIGv2]
      omega
  · subst e
    have d0 := hy 0 (by omega) (by omega)
    have d1 := hy 1 (by omega) (by omega)
    have d2 := hy 2 (by omega) (by omega)
    have d3 := hy 3 (by omega) (by omega)
    have hc : i = 0 ∨ i = 1 ∨ i = 2 ∨ i = 3 := by omega
    rcases hc with e | e | e | e
    · subst e
      change (10000000 * c + ((((0 + y 0 * FIG 0) + y 1 * FIG 1) + y 2 * FIG 2) + y 3 * FIG 3)) / FIG 0 % 10 = y 0
      rw [FIGv0, FIGv1, FIGv2, FIGv3]
      omega
    · subst e
      change (10000000 * c + ((((0 + y 0 * FIG 0) + y 1 * FIG 1) + y 2 * FIG 2) + y 3 * FIG 3)) / FIG 1 % 10 = y 1
      rw [FIGv0, FIGv1, FIGv2, FIGv3]
      omega
    · subst e
      change (10000000 * c + ((((0 + y 0 * FIG 0) + y 1 * FIG 1) + y 2 * FIG 2) + y 3 * FIG 3)) / FIG 2 % 10 = y 2
      rw [FIGv0, FIGv1, FIGv2, FIGv3]
      omega
    · subst e
      change (10000000 * c + ((((0 + y 0 * FIG 0) + y 1 * FIG 1) + y 2 * FIG 2) + y 3 * FIG 3)) / FIG 3 % 10 = y 3
      rw [FIGv0, FIGv1, FIGv2, FIGv3]
      omega
  · subst e
    have d0 := hy 0 (by omega) (by omega)
    have d1 := hy 1 (by omega) (by omega)
    have d2 := hy 2 (by omega) (by omega)
    have d3 := hy 3 (by omega) (by omega)
    have d4 := hy 4 (by omega) (by omega)
    have hc : i = 0 ∨ i = 1 ∨ i = 2 ∨ i = 3 ∨ i = 4 := by omega
    rcases hc with e | e | e | e | e
    · subst e
      change (10000000 * c + (((((0 + y 0 * FIG 0) + y 1 * FIG 1) + y 2 * FIG 2) + y 3 * FIG 3) + y 4 * FIG 4)) / FIG 0 % 10 = y 0
      rw [FIGv0, FIGv1, FIGv2, FIGv3, FIGv4]
      omega
    · subst e
      change (10000000 * c + (((((0 + y 0 * FIG 0) + y 1 * FIG 1) + y 2 * FIG 2) + y 3 * FIG 3) + y 4 * FIG 4)) / FIG 1 % 10 = y 1
      rw [FIGv0, FIGv1, FIGv2, FIGv3, FIGv4]
      omega
    · subst e
      change (10000000 * c + (((((0 + y 0 * FIG 0) + y 1 * FIG 1) + y 2 * FIG 2) + y 3 * FIG 3) + y 4 * FIG 4)) / FIG 2 % 10 = y 2
      rw [FIGv0, FIGv1, FIGv2, FIGv3, FIGv4]
      omega
    · subst e
      change (10000000 * c + (((((0 + y 0 * FIG 0) + y 1 * FIG 1) + y 2 * FIG 2) + y 3 * FIG 3) + y 4 * FIG 4)) / FIG 3 % 10 = y 3
      rw [FIGv0, FIGv1, FIGv2, FIGv3, FIGv4]
      omega
    · subst e
      change (10000000 * c + (((((0 + y 0 * FIG 0) + y 1 * FIG 1) + y 2 * FIG 2) + y 3 * FIG 3) + y 4 * FIG 4)) / FIG 4 % 10 = y 4
      rw [FIGv0, FIGv1, FIGv2, FIGv3, FIGv4]
      omega
  · subst e
    have d0 := hy 0 (by omega) (by omega)
    have d1 := hy 1 (by omega) (by omega)
    have d2 := hy 2 (by omega) (by omega)
    have d3 := hy 3 (by omega) (by omega)
    have d4 := hy 4 (by omega) (by omega)
    have d5 := hy 5 (by omega) (by omega)
    have hc : i = 0 ∨ i = 1 ∨ i = 2 ∨ i = 3 ∨ i = 4 ∨ i = 5 := by omega
    rcases hc with e | e | e | e | e | e
    · subst e
      change (10000000 * c + ((((((0 + y 0 * FIG 0) + y 1 * FIG 1) + y 2 * FIG 2) + y 3 * FIG 3) + y 4 * FIG 4) + y 5 * FIG 5)) / FIG 0 % 10 = y 0
      rw [FIGv0, FIGv1, FIGv2, FIGv3, FIGv4, FIGv5]
      omega
    · subst e
      change (10000000 * c + ((((((0 + y 0 * FIG 0) + y 1 * FIG 1) + y 2 * FIG 2) + y 3 * FIG 3) + y 4 * FIG 4) + y 5 * FIG 5)) / FIG 1 % 10 = y 1
      rw [FIGv0, FIGv1, FIGv2, FIGv3, FIGv4, FIGv5]
      omega
    · subst e
      change (10000000 * c + ((((((0 + y 0 * FIG 0) + y 1 * FIG 1) + y 2 * FIG 2) + y 3 * FIG 3) + y 4 * FIG 4) + y 5 * FIG 5)) / FIG 2 % 10 = y 2
      rw [FIGv0, FIGv1, FIGv2, FIGv3, FIGv4, FIGv5]
      omega
    · subst e
      change (10000000 * c + ((((((0 + y 0 * FIG 0) + y 1 * FIG 1) + y 2 * FIG 2) + y 3 * FIG 3) + y 4 * FIG 4) + y 5 * FIG 5)) / FIG 3 % 10 = y 3
      rw [FIGv0, FIGv1, FIGv2, FIGv3, FIGv4, FIGv5]
      omega
    · subst e
      change (10000000 * c + ((((((0 + y 0 * FIG 0) + y 1 * FIG 1) + y 2 * FIG 2) + y 3 * FIG 3) + y 4 * FIG 4) + y 5 * FIG 5)) / FIG 4 % 10 = y 4
      rw [FIGv0, FIGv1, FIGv2, FIGv3, FIGv4, FIGv5]
      omega
    · subst e
      change (10000000 * c + ((((((0 + y 0 * FIG 0) + y 1 * FIG 1) + y 2 * FIG 2) + y 3 * FIG 3) + y 4 * FIG 4) + y 5 * FIG 5)) / FIG 5 % 10 = y 5
      rw [FIGv0, FIGv1, FIGv2, FIGv3, FIGv4, FIGv5]
      omega
  · subst e
    have d0 := hy 0 (by omega) (by omega)
    have d1 := hy 1 (by omega) (by omega)
    have d2 := hy 2 (by omega) (by omega)
    have d3 := hy 3 (by omega) (by omega)
    have d4 := hy 4 (by omega) (by omega)
    have d5 := hy 5 (by omega) (by omega)
    have d6 := hy 6 (by omega) (by omega)
    have hc : i = 0 ∨ i = 1 ∨ i = 2 ∨ i = 3 ∨ i = 4 ∨ i = 5 ∨ i = 6 := by omega
    rcases hc with e | e | e | e | e | e | e
    · subst e
      change (10000000 * c + (((((((0 + y 0 * FIG 0) + y 1 * FIG 1) + y 2 * FIG 2) + y 3 * FIG 3) + y 4 * FIG 4) + y 5 * FIG 5) + y 6 * FIG 6)) / FIG 0 % 10 = y 0
      rw [FIGv0, FIGv1, FIGv2, FIGv3, FIGv4, FIGv5, FIGv6]
      omega
    · subst e
      change (10000000 * c + (((((((0 + y 0 * FIG 0) + y 1 * FIG 1) + y 2 * FIG 2) + y 3 * FIG 3) + y 4 * FIG 4) + y 5 * FIG 5) + y 6 * FIG 6)) / FIG 1 % 10 = y 1
      rw [FIGv0, FIGv1, FIGv2, FIGv3, FIGv4, FIGv5, FIGv6]
      omega
    · subst e
      change (10000000 * c + (((((((0 + y 0 * FIG 0) + y 1 * FIG 1) + y 2 * FIG 2) + y 3 * FIG 3) + y 4 * FIG 4) + y 5 * FIG 5) + y 6 * FIG 6)) / FIG 2 % 10 = y 2
      rw [FIGv0, FIGv1, FIGv2, FIGv3, FIGv4, FIGv5, FIGv6]
      omega
    · subst e
      change (10000000 * c + (((((((0 + y 0 * FIG 0) + y 1 * FIG 1) + y 2 * FIG 2) + y 3 * FIG 3) + y 4 * FIG 4) + y 5 * FIG 5) + y 6 * FIG 6)) / FIG 3 % 10 = y 3
      rw [FIGv0, FIGv1, FIGv2, FIGv3, FIGv4, FIGv5, FIGv6]
      omega
    · subst e
      change (10000000 * c + (((((((0 + y 0 * FIG 0) + y 1 * FIG 1) + y 2 * FIG 2) + y 3 * FIG 3) + y 4 * FIG 4) + y 5 * FIG 5) + y 6 * FIG 6)) / FIG 4 % 10 = y 4
      rw [FIGv0, FIGv1, FIGv2, FIGv3, FIGv4, FIGv5, FIGv6]
      omega
    · subst e
      change (10000000 * c + (((((((0 + y 0 * FIG 0) + y 1 * FIG 1) + y 2 * FIG 2) + y 3 * FIG 3) + y 4 * FIG 4) + y 5 * FIG 5) + y 6 * FIG 6)) / FIG 5 % 10 = y 5
      rw [FIGv0, FIGv1, FIGv2, FIGv3, FIGv4, FIGv5, FIGv6]
      omega
    · subst e
      change (10000000 * c + (((((((0 + y 0 * FIG 0) + y 1 * FIG 1) + y 2 * FIG 2) + y 3 * FIG 3) + y 4 * FIG 4) + y 5 * FIG 5) + y 6 * FIG 6)) / FIG 6 % 10 = y 6
      rw [FIGv0, FIGv1, FIGv2, FIGv3, FIGv4, FIGv5, FIGv6]
      omega
theorem figs_lex {y z : Int → Int} {n : Nat} {i : Int} (hn : 1 ≤ n ∧ n ≤ 7) (hy : Dig y n) (hz : Dig z n) (hi : 0 ≤ i ∧ i < n) (he : ∀ j : Int, 0 ≤ j → j < i → y j = z j) (hlt : y i < z i) : totS (fun j => y j * FIG j) n < totS (fun j => z j * FIG j) n := by
  have hc : n = 1 ∨ n = 2 ∨ n = 3 ∨ n = 4 ∨ n = 5 ∨ n = 6 ∨ n = 7 := by omega
  rcases hc with e | e | e | e | e | e | e
  · subst e
    have d0 := hy 0 (by omega) (by omega)
    have f0 := hz 0 (by omega) (by omega)
    have hc : i = 0 := by omega
    have e := hc
    subst e
    change (0 + y 0 * FIG 0) < (0 + z 0 * FIG 0)
    rw [FIGv0]
    omega
  · subst e
    have d0 := hy 0 (by omega) (by omega)
    have f0 := hz 0 (by omega) (by omega)
    have d1 := hy 1 (by omega) (by omega)
    have f1 := hz 1 (by omega) (by omega)
    have hc : i = 0 ∨ i = 1 := by omega
    rcases hc with e | e
    · subst e
      change ((0 + y 0 * FIG 0) + y 1 * FIG 1) < ((0 + z 0 * FIG 0) + z 1 * FIG 1)
      rw [FIGv0, FIGv1]
      omega
    · subst e
      have g0 := he 0 (by omega) (by omega)
      change ((0 + y 0 * FIG 0) + y 1 * FIG 1) < ((0 + z 0 * FIG 0) + z 1 * FIG 1)
      rw [FIGv0, FIGv1]
      omega
  · subst e
    have d0 := hy 0 (by omega) (by omega)
    have f0 := hz 0 (by omega) (by omega)
    have d1 := hy 1 (by omega) (by omega)
    have f1 := hz 1 (by omega) (by omega)
    have d2 := hy 2 (by omega) (by omega)
    have f2 := hz 2 (by omega) (by omega)
    have hc : i = 0 ∨ i = 1 ∨ i = 2 := by omega
    rcases hc with e | e | e
    · subst e
      change (((0 + y 0 * FIG 0) + y 1 * FIG 1) + y 2 * FIG 2) < (((0 + z 0 * FIG 0) + z 1 * FIG 1) + z 2 * FIG 2)
      rw [FIGv0, FIGv1, FIGv2]
      omega
    · subst e
      have g0 := he 0 (by omega) (by omega)
      change (((0 + y 0 * FIG 0) + y 1 * FIG 1) + y 2 * FIG 2) < (((0 + z 0 * FIG 0) + z 1 * FIG 1) + z 2 * FIG 2)
      rw [FIGv0, FIGv1, FIGv2]
      omega
    · subst e
      have g0 := he 0 (by omega) (by omega)
      have g1 := he 1 (by omega) (by omega)
      change (((0 + y 0 * FIG 0) + y 1 * FIG 1) + y 2 * FIG 2) < (((0 + z 0 * FIG 0) + z 1 * FIG 1) + z 2 * FIG 2)
      rw [FIGv0, FIGv1, FIGv2]
      omega
  · subst e
    have d0 := hy 0 (by omega) (by omega)
    have f0 := hz 0 (by omega) (by omega)
    have d1 := hy 1 (by omega) (by omega)
    have f1 := hz 1 (by omega) (by omega)
    have d2 := hy 2 (by omega) (by omega)
    have f2 := hz 2 (by omega) (by omega)
    have d3 := hy 3 (by omega) (by omega)
    have f3 := hz 3 (by omega) (by omega)
    have hc : i = 0 ∨ i = 1 ∨ i = 2 ∨ i = 3 := by omega
    rcases hc with e | e | e | e
    · subst e
      change ((((0 + y 0 * FIG 0) + y 1 * FIG 1) + y 2 * FIG 2) + y 3 * FIG 3) < ((((0 + z 0 * FIG 0) + z 1 * FIG 1) + z 2 * FIG 2) + z 3 * FIG 3)
      rw [FIGv0, FIGv1, FIGv2, FIGv3]
      omega
    · subst e
      have g0 := he 0 (by omega) (by omega)
      change ((((0 + y 0 * FIG 0) + y 1 * FIG 1) + y 2 * FIG 2) + y 3 * FIG 3) < ((((0 + z 0 * FIG 0) + z 1 * FIG 1) + z 2 * FIG 2) + z 3 * FIG 3)
      rw [FIGv0, FIGv1, FIGv2, FIGv3]
      omega
    · subst e
      have g0 := he 0 (by omega) (by omega)
      have g1 := he 1 (by omega) (by omega)
      change ((((0 + y 0 * FIG 0) + y 1 * FIG 1) + y 2 * FIG 2) + y 3 * FIG 3) < ((((0 + z 0 * FIG 0) + z 1 * FIG 1) + z 2 * FIG 2) + z 3 * FIG 3)
      rw [FIGv0, FIGv1, FIGv2, FIGv3]
      omega
    · subst e
      have g0 := he 0 (by omega) (by omega)
      have g1 := he 1 (by omega) (by omega)
      have g2 := he 2 (by omega) (by omega)
      change ((((0 + y 0 * FIG 0) + y 1 * FIG 1) + y 2 * FIG 2) + y 3 * FIG 3) < ((((0 + z 0 * FIG 0) + z 1 * FIG 1) + z 2 * FIG 2) + z 3 * FIG 3)
      rw [FIGv0, FIGv1, FIGv2, FIGv3]
      omega
  · subst e
    have d0 := hy 0 (by omega) (by omega)
    have f0 := hz 0 (by omega) (by omega)
    have d1 := hy 1 (by omega) (by omega)
    have f1 := hz 1 (by omega) (by omega)
    have d2 := hy 2 (by omega) (by omega)
    have f2 := hz 2 (by omega) (by omega)
    have d3 := hy 3 (by omega) (by omega)
    have f3 := hz 3 (by omega) (by omega)
    have d4 := hy 4 (by omega) (by omega)
    have f4 := hz 4 (by omega) (by omega)
    have hc : i = 0 ∨ i = 1 ∨ i = 2 ∨ i = 3 ∨ i = 4 := by omega
    rcases hc with e | e | e | e | e
    · subst e
      change (((((0 + y 0 * FIG 0) + y 1 * FIG 1) + y 2 * FIG 2) + y 3 * FIG 3) + y 4 * FIG 4) < (((((0 + z 0 * FIG 0) + z 1 * FIG 1) + z 2 * FIG 2) + z 3 * FIG 3) + z 4 * FIG 4)
      rw [FIGv0, FIGv1, FIGv2, FIGv3, FIGv4]
      omega
    · subst e
      have g0 := he 0 (by omega) (by omega)
      change (((((0 + y 0 * FIG 0) + y 1 * FIG 1) + y 2 * FIG 2) + y 3 * FIG 3) + y 4 * FIG 4) < (((((0 + z 0 * FIG 0) + z 1 * FIG 1) + z 2 * FIG 2) + z 3 * FIG 3) + z 4 * FIG 4)
      rw [FIGv0, FIGv1, FIGv2, FIGv3, FIGv4]
      omega
    · subst e
      have g0 := he 0 (by omega) (by omega)
      have g1 := he 1 (by omega) (by omega)
      change (((((0 + y 0 * FIG 0) + y 1 * FIG 1) + y 2 * FIG 2) + y 3 * FIG 3) + y 4 * FIG 4) < (((((0 + z 0 * FIG 0) + z 1 * FIG 1) + z 2 * FIG 2) + z 3 * FIG 3) + z 4 * FIG 4)
      rw [FIGv0, FIGv1, FIGv2, FIGv3, FIGv4]
      omega
    · subst e
      have g0 := he 0 (by omega) (by omega)
      have g1 := he 1 (by omega) (by omega)
      have g2 := he 2 (by omega) (by omega)
      change (((((0 + y 0 * FIG 0) + y 1 * FIG 1) + y 2 * FIG 2) + y 3 * FIG 3) + y 4 * FIG 4) < (((((0 + z 0 * FIG 0) + z 1 * FIG 1) + z 2 * FIG 2) + z 3 * FIG 3) + z 4 * FIG 4)
      rw [FIGv0, FIGv1, FIGv2, FIGv3, FIGv4]
      omega
    · subst e
      have g0 := he 0 (by omega) (by omega)
      have g1 := he 1 (by omega) (by omega)
      have g2 := he 2 (by omega) (by omega)
      have g3 := he 3 (by omega) (by omega)
      change (((((0 + y 0 * FIG 0) + y 1 * FIG 1) + y 2 * FIG 2) + y 3 * FIG 3) + y 4 * FIG 4) < (((((0 + z 0 * FIG 0) + z 1 * FIG 1) + z 2 * FIG 2) + z 3 * FIG 3) + z 4 * FIG 4)
      rw [FIGv0, FIGv1, FIGv2, FIGv3, FIGv4]
      omega
  · subst e
    have d0 := hy 0 (by omega) (by omega)
    have f0 := hz 0 (by omega) (by omega)
    have d1 := hy 1 (by omega) (by omega)
    have f1 := hz 1 (by omega) (by omega)
    have d2 := hy 2 (by omega) (by omega)
    have f2 := hz 2 (by omega) (by omega)
    have d3 := hy 3 (by omega) (by omega)
    have f3 := hz 3 (by omega) (by omega)
    have d4 := hy 4 (by omega) (by omega)
    have f4 := hz 4 (by omega) (by omega)
    have d5 := hy 5 (by omega) (by omega)
    have f5 := hz 5 (by omega) (by omega)
    have hc : i = 0 ∨ i = 1 ∨ i = 2 ∨ i = 3 ∨ i = 4 ∨ i = 5 := by omega
    rcases hc with e | e | e | e | e | e
    · subst e
      change ((((((0 + y 0 * FIG 0) + y 1 * FIG 1) + y 2 * FIG 2) + y 3 * FIG 3) + y 4 * FIG 4) + y 5 * FIG 5) < ((((((0 + z 0 * FIG 0) + z 1 * FIG 1) + z 2 * FIG 2) + z 3 * FIG 3) + z 4 * FIG 4) + z 5 * FIG 5)
      rw [FIGv0, FIGv1, FIGv2, FIGv3, FIGv4, FIGv5]
      omega
    · subst e
      have g0 := he 0 (by omega) (by omega)
      change ((((((0 + y 0 * FIG 0) + y 1 * FIG 1) + y 2 * FIG 2) + y 3 * FIG 3) + y 4 * FIG 4) + y 5 * FIG 5) < ((((((0 + z 0 * FIG 0) + z 1 * FIG 1) + z 2 * FIG 2) + z 3 * FIG 3) + z 4 * FIG 4) + z 5 * FIG 5)
      rw [FIGv0, FIGv1, FIGv2, FIGv3, FIGv4, FIGv5]
      omega
    · subst e
      have g0 := he 0 (by omega) (by omega)
      have g1 := he 1 (by omega) (by omega)
      change ((((((0 + y 0 * FIG 0) + y 1 * FIG 1) + y 2 * FIG 2) + y 3 * FIG 3) + y 4 * FIG 4) + y 5 * FIG 5) < ((((((0 + z 0 * FIG 0) + z 1 * FIG 1) + z 2 * FIG 2) + z 3 * FIG 3) + z 4 * FIG 4) + z 5 * FIG 5)
      rw [FIGv0, FIGv1, FIGv2, FIGv3, FIGv4, FIGv5]
      omega
    · subst e
      have g0 := he 0 (by omega) (by omega)
      have g1 := he 1 (by omega) (by omega)
      have g2 := he 2 (by omega) (by omega)
      change ((((((0 + y 0 * FIG 0) + y 1 * FIG 1) + y 2 * FIG 2) + y 3 * FIG 3) + y 4 * FIG 4) + y 5 * FIG 5) < ((((((0 + z 0 * FIG 0) + z 1 * FIG 1) + z 2 * FIG 2) + z 3 * FIG 3) + z 4 * FIG 4) + z 5 * FIG 5)
      rw [FIGv0, FIGv1, FIGv2, FIGv3, FIGv4, FIGv5]
      omega
    · subst e
      have g0 := he 0 (by omega) (by omega)
      have g1 := he 1 (by omega) (by omega)
      have g2 := he 2 (by omega) (by omega)
      have g3 := he 3 (by omega) (by omega)
      change ((((((0 + y 0 * FIG 0) + y 1 * FIG 1) + y 2 * FIG 2) + y 3 * FIG 3) + y 4 * FIG 4) + y 5 * FIG 5) < ((((((0 + z 0 * FIG 0) + z 1 * FIG 1) + z 2 * FIG 2) + z 3 * FIG 3) + z 4 * FIG 4) + z 5 * FIG 5)
      rw [FIGv0, FIGv1, FIGv2, FIGv3, FIGv4, FIGv5]
      omega
    · subst e
      have g0 := he 0 (by omega) (by omega)
      have g1 := he 1 (by omega) (by omega)
      have g2 := he 2 (by omega) (by omega)
      have g3 := he 3 (by omega) (by omega)
      have g4 := he 4 (by omega) (by omega)
      change ((((((0 + y 0 * FIG 0) + y 1 * FIG 1) + y 2 * FIG 2) + y 3 * FIG 3) + y 4 * FIG 4) + y 5 * FIG 5) < ((((((0 + z 0 * FIG 0) + z 1 * FIG 1) + z 2 * FIG 2) + z 3 * FIG 3) + z 4 * FIG 4) + z 5 * FIG 5)
      rw [FIGv0, FIGv1, FIGv2, FIGv3, FIGv4, FIGv5]
      omega
  · subst e
    have d0 := hy 0 (by omega) (by omega)
    have f0 := hz 0 (by omega) (by omega)
    have d1 := hy 1 (by omega) (by omega)
    have f1 := hz 1 (by omega) (by omega)
    have d2 := hy 2 (by omega) (by omega)
    have f2 := hz 2 (by omega) (by omega)
    have d3 := hy 3 (by omega) (by omega)
    have f3 := hz 3 (by omega) (by omega)
    have d4 := hy 4 (by omega) (by omega)
    have f4 := hz 4 (by omega) (by omega)
    have d5 := hy 5 (by omega) (by omega)
    have f5 := hz 5 (by omega) (by omega)
    have d6 := hy 6 (by omega) (by omega)
    have f6 := hz 6 (by omega) (by omega)
    have hc : i = 0 ∨ i = 1 ∨ i = 2 ∨ i = 3 ∨ i = 4 ∨ i = 5 ∨ i = 6 := by omega
    rcases hc with e | e | e | e | e | e | e
    · subst e
      change (((((((0 + y 0 * FIG 0) + y 1 * FIG 1) + y 2 * FIG 2) + y 3 * FIG 3) + y 4 * FIG 4) + y 5 * FIG 5) + y 6 * FIG 6) < (((((((0 + z 0 * FIG 0) + z 1 * FIG 1) + z 2 * FIG 2) + z 3 * FIG 3) + z 4 * FIG 4) + z 5 * FIG 5) + z 6 * FIG 6)
      rw [FIGv0, FIGv1, FIGv2, FIGv3, FIGv4, FIGv5, FIGv6]
      omega
    · subst e
      have g0 := he 0 (by omega) (by omega)
      change (((((((0 + y 0 * FIG 0) + y 1 * FIG 1) + y 2 * FIG 2) + y 3 * FIG 3) + y 4 * FIG 4) + y 5 * FIG 5) + y 6 * FIG 6) < (((((((0 + z 0 * FIG 0) + z 1 * FIG 1) + z 2 * FIG 2) + z 3 * FIG 3) + z 4 * FIG 4) + z 5 * FIG 5) + z 6 * FIG 6)
      rw [FIGv0, FIGv1, FIGv2, FIGv3, FIGv4, FIGv5, FIGv6]
      omega
    · subst e
      have g0 := he 0 (by omega) (by omega)
      have g1 := he 1 (by omega) (by omega)
      change (((((((0 + y 0 * FIG 0) + y 1 * FIG 1) + y 2 * FIG 2) + y 3 * FIG 3) + y 4 * FIG 4) + y 5 * FIG 5) + y 6 * FIG 6) < (((((((0 + z 0 * FIG 0) + z 1 * FIG 1) + z 2 * FIG 2) + z 3 * FIG 3) + z 4 * FIG 4) + z 5 * FIG 5) + z 6 * FIG 6)
      rw [FIGv0, FIGv1, FIGv2, FIGv3, FIGv4, FIGv5, FIGv6]
      omega
    · subst e
      have g0 := he 0 (by omega) (by omega)
      have g1 := he 1 (by omega) (by omega)
      have g2 := he 2 (by omega) (by omega)
      change (((((((0 + y 0 * FIG 0) + y 1 * FIG 1) + y 2 * FIG 2) + y 3 * FIG 3) + y 4 * FIG 4) + y 5 * FIG 5) + y 6 * FIG 6) < (((((((0 + z 0 * FIG 0) + z 1 * FIG 1) + z 2 * FIG 2) + z 3 * FIG 3) + z 4 * FIG 4) + z 5 * FIG 5) + z 6 * FIG 6)
      rw [FIGv0, FIGv1, FIGv2, FIGv3, FIGv4, FIGv5, FIGv6]
      omega
    · subst e
      have g0 := he 0 (by omega) (by omega)
      have g1 := he 1 (by omega) (by omega)
      have g2 := he 2 (by omega) (by omega)
      have g3 := he 3 (by omega) (by omega)
      change (((((((0 + y 0 * FIG 0) + y 1 * FIG 1) + y 2 * FIG 2) + y 3 * FIG 3) + y 4 * FIG 4) + y 5 * FIG 5) + y 6 * FIG 6) < (((((((0 + z 0 * FIG 0) + z 1 * FIG 1) + z 2 * FIG 2) + z 3 * FIG 3) + z 4 * FIG 4) + z 5 * FIG 5) + z 6 * FIG 6)
      rw [FIGv0, FIGv1, FIGv2, FIGv3, FIGv4, FIGv5, FIGv6]
      omega
    · subst e
      have g0 := he 0 (by omega) (by omega)
      have g1 := he 1 (by omega) (by omega)
      have g2 := he 2 (by omega) (by omega)
      have g3 := he 3 (by omega) (by omega)
      have g4 := he 4 (by omega) (by omega)
      change (((((((0 + y 0 * FIG 0) + y 1 * FIG 1) + y 2 * FIG 2) + y 3 * FIG 3) + y 4 * FIG 4) + y 5 * FIG 5) + y 6 * FIG 6) < (((((((0 + z 0 * FIG 0) + z 1 * FIG 1) + z 2 * FIG 2) + z 3 * FIG 3) + z 4 * FIG 4) + z 5 * FIG 5) + z 6 * FIG 6)
      rw [FIGv0, FIGv1, FIGv2, FIGv3, FIGv4, FIGv5, FIGv6]
      omega
    · subst e
      have g0 := he 0 (by omega) (by omega)
      have g1 := he 1 (by omega) (by omega)
      have g2 := he 2 (by omega) (by omega)
      have g3 := he 3 (by omega) (by omega)
      have g4 := he 4 (by omega) (by omega)
      have g5 := he 5 (by omega) (by omega)
      change (((((((0 + y 0 * FIG 0) + y 1 * FIG 1) + y 2 * FIG 2) + y 3 * FIG 3) + y 4 * FIG 4) + y 5 * FIG 5) + y 6 * FIG 6) < (((((((0 + z 0 * FIG 0) + z 1 * FIG 1) + z 2 * FIG 2) + z 3 * FIG 3) + z 4 * FIG 4) + z 5 * FIG 5) + z 6 * FIG 6)
      rw [FIGv0, FIGv1, FIGv2, FIGv3, FIGv4, FIGv5, FIGv6]
      omega
