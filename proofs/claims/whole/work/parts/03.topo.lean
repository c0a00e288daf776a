/-! TOPOLOGY: which cells there are -/
def jnf (c : Nat) : Nat := match c with
  | 0 => 5
  | 1 => 6
  | 2 => 5
  | 3 => 5
  | 4 => 14
  | 5 => 13
  | 6 => 6
  | 7 => 3
  | 8 => 20
  | 9 => 7
  | 10 => 4
  | 11 => 6
  | 12 => 34
  | _ => 0
def jft (c j : Nat) : Nat := ((match c with
  | 0 => [0, 0, 0, 0, 1]
  | 1 => [0, 2, 2, 2, 2, 0]
  | 2 => [0, 0, 2, 2, 2]
  | 3 => [0, 0, 0, 0, 0]
  | 4 => [0, 2, 2, 2, 2, 2, 2, 2, 2, 2, 2, 2, 2, 2]
  | 5 => [0, 0, 0, 0, 0, 0, 0, 0, 0, 0, 0, 0, 0]
  | 6 => [2, 2, 2, 0, 0, 0]
  | 7 => [0, 0, 2]
  | 8 => [2, 2, 1, 2, 0, 2, 0, 2, 0, 2, 0, 2, 0, 2, 0, 2, 2, 0, 2, 0]
  | 9 => [2, 0, 0, 0, 0, 0, 0]
  | 10 => [0, 0, 0, 1]
  | 11 => [2, 2, 2, 2, 2, 2]
  | 12 => [0, 2, 2, 2, 2, 0, 0, 0, 0, 0, 0, 0, 0, 0, 0, 0, 0, 0, 2, 2, 2, 2, 2, 2, 2, 2, 2, 2, 2, 2, 2, 2, 2, 2]
  | _ => []) : List Nat).getD j 0
def jshS (o : Int) : Nat × Nat := if o < 55 then (([(8, 20), (1, 6), (13, 8), (13, 8), (13, 8), (13, 6), (1, 6), (13, 8), (13, 8), (13, 8), (13, 6), (2, 5), (13, 9), (13, 400), (13, 400), (17, 12), (18, 16), (19, 60), (20, 150), (21, 10), (13, 2), (13, 2), (13, 2), (13, 2), (13, 2), (13, 2), (13, 2), (13, 2), (13, 2), (13, 2), (21, 6), (13, 301), (13, 301), (13, 301), (13, 301), (13, 301), (13, 301), (21, 4), (13, 5), (13, 5), (13, 5), (13, 5), (21, 12), (13, 2), (13, 2), (13, 2), (13, 2), (13, 2), (13, 2), (13, 2), (13, 2), (13, 2), (13, 2), (13, 2), (13, 2)] : List (Nat × Nat)).getD o.toNat (0, 0)) else if o < 67 then (0, 5) else if o < 83 then (3, 5) else if o < 143 then (5, 13) else (10, 4)
def jbase (k : Int) : Int := if k < 1 then 0 else if k < 294 then 1 else if k < 295 then 0 else if k < 588 then 295 else if k < 881 then 588 else 0
def jshO (k : Int) : Nat × Nat := if k = 0 then (11, 6) else if k = 294 then (22, 2) else ([(15, 2), (6, 6), (9, 7), (14, 400), (1, 6), (13, 8), (13, 8), (13, 8), (13, 6), (2, 5), (13, 9), (13, 400), (13, 400), (23, 4), (7, 3), (16, 40), (7, 3), (16, 40), (7, 3), (16, 40), (7, 3), (16, 40), (4, 14), (13, 10), (13, 10), (13, 256), (13, 256), (13, 256), (13, 256), (16, 256), (13, 256), (21, 11), (13, 11), (13, 11), (13, 11), (13, 11), (13, 11), (13, 11), (13, 11), (13, 11), (13, 11), (13, 11), (13, 11), (13, 60), (13, 12), (15, 12), (15, 60), (12, 34), (13, 11760), (15, 2), (13, 400), (13, 582), (13, 7), (13, 7), (13, 7), (13, 10), (13, 10), (13, 10), (13, 10), (15, 260), (13, 60), (13, 256), (13, 60), (13, 12), (15, 60), (13, 4), (13, 4), (16, 160)] : List (Nat × Nat)).getD (k - 881).toNat (0, 0)
def jsh (k : Int) : Nat × Nat := if jbase k = 0 then jshO k else jshS (k - jbase k)
/-- where the cells of one shop point to, by offsets; -1: nowhere -/
def jtpS (o j : Int) : Int :=
  if o = 0 then (([1, 6, -1, 11, -1, 15, -1, 16, -1, 17, -1, 18, -1, 19, -1, 30, 37, -1, 42, -1] : List Int).getD j.toNat (-1))
  else if o = 1 ∨ o = 6 then (if 1 ≤ j ∧ j < 5 then o + j else -1)
  else if o = 11 then (if 2 ≤ j ∧ j < 5 then 10 + j else -1)
  else if o = 15 then (if 0 ≤ j ∧ j < 12 then 55 + j else -1)
  else if o = 16 then (if 0 ≤ j ∧ j < 16 then 67 + j else -1)
  else if o = 17 then (if 0 ≤ j ∧ j < 60 then 83 + j else -1)
  else if o = 18 then (if 0 ≤ j ∧ j < 150 then 143 + j else -1)
  else if o = 19 then (if 0 ≤ j ∧ j < 10 then 20 + j else -1)
  else if o = 30 then (if 0 ≤ j ∧ j < 6 then 31 + j else -1)
  else if o = 37 then (if 0 ≤ j ∧ j < 4 then 38 + j else -1)
  else if o = 42 then (if 0 ≤ j ∧ j < 12 then 43 + j else -1)
  else -1
def jtpO (k j : Int) : Int :=
  if k = 0 then (if 0 ≤ j ∧ j < 6 then (([1, 294, 881, 882, 894, 903] : List Int).getD j.toNat (-1)) else -1)
  else if k = 294 then (if 0 ≤ j ∧ j < 2 then (([295, 588] : List Int).getD j.toNat (-1)) else -1)
  else if k = 882 then (if 0 ≤ j ∧ j < 6 then (([883, 885, 890, -1, -1, -1] : List Int).getD j.toNat (-1)) else -1)
  else if k = 883 then (if 0 ≤ j ∧ j < 7 then (([884, -1, -1, -1, -1, -1, -1] : List Int).getD j.toNat (-1)) else -1)
  else if k = 885 then (if 0 ≤ j ∧ j < 6 then (([-1, 886, 887, 888, 889, -1] : List Int).getD j.toNat (-1)) else -1)
  else if k = 890 then (if 0 ≤ j ∧ j < 5 then (([-1, -1, 891, 892, 893] : List Int).getD j.toNat (-1)) else -1)
  else if k = 894 then (if 0 ≤ j ∧ j < 4 then (([895, 897, 899, 901] : List Int).getD j.toNat (-1)) else -1)
  else if k = 895 then (if 0 ≤ j ∧ j < 3 then (([-1, -1, 896] : List Int).getD j.toNat (-1)) else -1)
  else if k = 897 then (if 0 ≤ j ∧ j < 3 then (([-1, -1, 898] : List Int).getD j.toNat (-1)) else -1)
  else if k = 899 then (if 0 ≤ j ∧ j < 3 then (([-1, -1, 900] : List Int).getD j.toNat (-1)) else -1)
  else if k = 901 then (if 0 ≤ j ∧ j < 3 then (([-1, -1, 902] : List Int).getD j.toNat (-1)) else -1)
  else if k = 903 then (if 0 ≤ j ∧ j < 14 then (([-1, 904, 905, 906, 907, 908, 909, 910, 911, 912, 924, 925, 926, 927] : List Int).getD j.toNat (-1)) else -1)
  else if k = 912 then (if 0 ≤ j ∧ j < 11 then (([913, 914, 915, 916, 917, 918, 919, 920, 921, 922, 923] : List Int).getD j.toNat (-1)) else -1)
  else if k = 928 then (if 0 ≤ j ∧ j < 34 then (([-1, 929, 930, 931, 932, -1, -1, -1, -1, -1, -1, -1, -1, -1, -1, -1, -1, -1, 933, 934, 935, 936, 937, 938, 939, 940, 941, 942, 943, 944, 945, 946, 947, 948] : List Int).getD j.toNat (-1)) else -1)
  else -1
def jtp (k j : Int) : Int := if jbase k = 0 then jtpO k j else (if 0 ≤ j ∧ 0 ≤ jtpS (k - jbase k) j then jbase k + jtpS (k - jbase k) j else -1)
def topo (k j : Int) : Option Int := if jtp k j < 0 then none else some (jtp k j)
