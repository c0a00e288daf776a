/-! THE INVARIANT: what the reference's row of ints keeps, and how the class's cells tell the same -/
/-- a law at o of the row: lines of upto, what is told once -/
def RLaw (a : Int → Int) (o : Int) : Prop := (0 ≤ a o ∧ a o ≤ 8) ∧ (∀ i, 0 ≤ i → i < a o → 1 ≤ a (o + 1 + i) ∧ a (o + 1 + i) ≤ 999 ∧ 0 ≤ a (o + 9 + i) ∧ a (o + 9 + i) ≤ 99 ∧ 1 ≤ a (o + 17 + i) ∧ a (o + 17 + i) ≤ 999) ∧ (∀ i j, 0 ≤ i → i < j → j < a o → a (o + 1 + i) < a (o + 1 + j)) ∧
  (0 ≤ a (o + 25) ∧ a (o + 25) ≤ 99) ∧ (0 ≤ a (o + 26) ∧ a (o + 26) ≤ 20) ∧ (0 ≤ a (o + 27) ∧ a (o + 27) ≤ 99) ∧ (0 ≤ a (o + 28) ∧ a (o + 28) ≤ 104) ∧ (0 ≤ a (o + 29) ∧ a (o + 29) ≤ 20) ∧ (0 ≤ a (o + 30) ∧ a (o + 30) ≤ 52)
def RCnt (a : Int → Int) : Prop := (0 ≤ a 582 ∧ a 582 ≤ 12) ∧ (0 ≤ a 643 ∧ a 643 ≤ 16) ∧ (0 ≤ a 709 ∧ a 709 ≤ 60) ∧ (0 ≤ a 1310 ∧ a 1310 ≤ 150) ∧ (0 ≤ a 1761 ∧ a 1761 ≤ 10) ∧ (0 ≤ a 3895 ∧ a 3895 ≤ 12) ∧ (0 ≤ a 708 ∧ a 708 ≤ 300) ∧ (0 ≤ a 3608 ∧ a 3608 ≤ 3) ∧ (0 ≤ a 64 ∧ a 64 ≤ 1) ∧ (a 64 = 0 → a 32 = 0)
def RKind (a : Int → Int) : Prop := ∀ k, 0 ≤ k → k < a 582 → (1 ≤ a (583 + k) ∧ a (583 + k) ≤ 9) ∧ (1 ≤ a (595 + k) ∧ a (595 + k) ≤ a (607 + k) ∧ a (607 + k) ≤ 999) ∧ (0 ≤ a (619 + k) ∧ a (619 + k) ≤ 99) ∧ (0 ≤ a (631 + k) ∧ a (631 + k) ≤ 1)
def RPers (a : Int → Int) : Prop := ∀ p, 0 ≤ p → p < a 643 → (0 ≤ a (644 + p) ∧ a (644 + p) ≤ 999) ∧ (0 ≤ a (660 + p) ∧ a (660 + p) ≤ 999) ∧ (0 ≤ a (676 + p) ∧ a (676 + p) ≤ 999) ∧ (0 ≤ a (3759 + p) ∧ a (3759 + p) ≤ 999)
def RPled (a : Int → Int) : Prop := ∀ p, 0 ≤ p → p < a 709 → (0 ≤ a (710 + p) ∧ a (710 + p) < a 582) ∧ (0 ≤ a (770 + p) ∧ a (770 + p) < a 643) ∧ (1 ≤ a (830 + p) ∧ a (830 + p) ≤ 999) ∧ (0 ≤ a (890 + p) ∧ a (890 + p) ≤ a 708) ∧ (0 ≤ a (1130 + p) ∧ a (1130 + p) ≤ a 708) ∧
  (-1 ≤ a (950 + p) ∧ a (950 + p) < a 1761 ∧ (a (1010 + p) ≠ 0 → a (950 + p) = -1)) ∧ (0 ≤ a (1010 + p) ∧ a (1010 + p) ≤ 2) ∧ (a (1010 + p) ≠ 0 → 0 ≤ a (1190 + p) ∧ a (1190 + p) ≤ a 708)
def RMade (a : Int → Int) : Prop := ∀ p q, 0 ≤ p → p ≤ q → q < a 709 → a (1130 + p) ≤ a (1130 + q)
def RTick (a : Int → Int) : Prop := ∀ t, 0 ≤ t → t < a 1310 → (0 ≤ a (1311 + t) ∧ a (1311 + t) < a 709) ∧ (0 ≤ a (1461 + t) ∧ a (1461 + t) < a 643) ∧ (0 ≤ a (1611 + t) ∧ a (1611 + t) ≤ 1) ∧ (0 ≤ a (3609 + t) ∧ a (3609 + t) ≤ 3)
def RRack (a : Int → Int) : Prop := ∀ r, 0 ≤ r → r < a 1761 → (1 ≤ a (1762 + r) ∧ a (1762 + r) ≤ 99) ∧ (0 ≤ a (1772 + r) ∧ a (1772 + r) ≤ 99)
def RHand (a : Int → Int) : Prop := ∀ i, 0 ≤ i → i < 20 → 0 ≤ a (3588 + i) ∧ a (3588 + i) ≤ 9
/-- how deep the pile of facts is behind the steps from i on, if it is d there: a test's steps, written one behind the other -/
def LWf (a : Int → Int) : Nat → Int → Int → Prop
  | 0, _, d => d = 1
  | f + 1, i, d => if a (82 + 2 * i) = 13 then 1 ≤ d ∧ LWf a f (i + 1) d
    else if a (82 + 2 * i) = 12 ∨ a (82 + 2 * i) = 11 then 2 ≤ d ∧ LWf a f (i + 1) (d - 1)
    else (14 ≤ a (82 + 2 * i) ∧ a (82 + 2 * i) ≤ 19) ∧ d ≤ 60 ∧ LWf a f (i + 1) (d + 1)
def RLook (a : Int → Int) : Prop := (0 ≤ a 65 ∧ a 65 ≤ 8) ∧ (∀ k, 0 ≤ k → k < a 65 → (0 ≤ a (66 + k) ∧ a (66 + k) ≤ a (74 + k) ∧ a (74 + k) ≤ 250) ∧ LWf a (a (74 + k) - a (66 + k)).toNat (a (66 + k)) 0)
def RInv (a : Int → Int) : Prop := RCnt a ∧ RLaw a 0 ∧ RLaw a 32 ∧ RKind a ∧ RPers a ∧ RPled a ∧ RMade a ∧ RTick a ∧ RRack a ∧ RHand a ∧ RLook a
/-- the class's cells of one shop (by offsets) tell what the row tells -/
def CLaw (c : Int → Int → Int) (k : Int) (a : Int → Int) (o n : Int) : Prop := c k 0 = a o ∧ c k 5 = a (o + 31) ∧ (∀ i, 0 ≤ i → i < a o → c (k + 1) i = a (o + 1 + i) ∧ c (k + 2) i = a (o + 9 + i) ∧ c (k + 3) i = a (o + 17 + i)) ∧ (∀ i, 0 ≤ i → i < n → c (k + 4) i = a (o + 25 + i))
def CCnt (c : Int → Int → Int) (a : Int → Int) : Prop := c 0 6 = a 582 ∧ c 0 8 = a 643 ∧ c 0 10 = a 709 ∧ c 0 12 = a 1310 ∧ c 0 14 = a 1761 ∧ c 0 19 = a 3895 ∧ c 0 4 = a 708 ∧ c 0 17 = a 3608 ∧ c 0 2 = a 64
def CKind (c : Int → Int → Int) (a : Int → Int) : Prop := ∀ k, 0 ≤ k → k < a 582 → c (55 + k) 0 = a (583 + k) ∧ c (55 + k) 1 = a (595 + k) ∧ c (55 + k) 2 = a (607 + k) ∧ c (55 + k) 3 = a (619 + k) ∧ c (55 + k) 4 = a (631 + k)
def CPers (c : Int → Int → Int) (a : Int → Int) : Prop := ∀ p, 0 ≤ p → p < a 643 → c (67 + p) 0 = a (644 + p) ∧ c (67 + p) 1 = a (660 + p) ∧ c (67 + p) 2 = a (676 + p) ∧ c (67 + p) 3 = a (692 + p) ∧ c (67 + p) 4 = a (3759 + p)
def CPled (c : Int → Int → Int) (a : Int → Int) : Prop := ∀ p, 0 ≤ p → p < a 709 → (c (83 + p) 0 = a (710 + p) ∧ c (83 + p) 1 = a (770 + p) ∧ c (83 + p) 2 = a (830 + p) ∧ c (83 + p) 3 = a (890 + p) ∧ c (83 + p) 4 = a (1130 + p) ∧ c (83 + p) 5 = a (950 + p) ∧ c (83 + p) 6 = a (1010 + p) ∧ c (83 + p) 7 = a (1070 + p)) ∧ (a (1010 + p) = 1 → c (83 + p) 8 = a (1190 + p)) ∧ (a (1010 + p) = 2 → c (83 + p) 9 = a (1190 + p)) ∧ c (83 + p) 10 = a (1250 + p) ∧ c (83 + p) 11 = a (3775 + p) ∧ c (83 + p) 12 = a (3835 + p)
def CTick (c : Int → Int → Int) (a : Int → Int) : Prop := ∀ t, 0 ≤ t → t < a 1310 → c (143 + t) 0 = a (1311 + t) ∧ c (143 + t) 1 = a (1461 + t) ∧ c (143 + t) 2 = a (3609 + t) ∧ c (143 + t) 3 = a (1611 + t)
def CRack (c : Int → Int → Int) (a : Int → Int) : Prop := ∀ r, 0 ≤ r → r < a 1761 → c (20 + r) 0 = a (1762 + r) ∧ c (20 + r) 1 = a (1772 + r)
def CBook (c : Int → Int → Int) (a : Int → Int) : Prop := ∀ w, 0 ≤ w → w < 301 → c 31 w = a (1782 + w) ∧ c 32 w = a (2083 + w) ∧ c 33 w = a (2384 + w) ∧ c 34 w = a (2685 + w) ∧ c 35 w = a (2986 + w) ∧ c 36 w = a (3287 + w)
def CHand (c : Int → Int → Int) (a : Int → Int) : Prop := ∀ k j, 0 ≤ k → k < 4 → 0 ≤ j → j < 5 → c (38 + k) j = a (3588 + 5 * k + j)
def CList (c : Int → Int → Int) (a : Int → Int) : Prop := ∀ i, 0 ≤ i → i < a 3895 → c (43 + i) 0 = a (3896 + i) ∧ c (43 + i) 1 = a (3908 + i)
/-- a step's sign in the class, by the reference's -/
def opC (k : Int) : Int := if k = 13 then 6 else if k = 12 then 7 else if k = 11 then 8 else k - 14
def CLook (c : Int → Int → Int) (k : Int) (a : Int → Int) : Prop := c k 0 = a 65 ∧ c (k + 1) 0 = 0 ∧ (0 ≤ c k 1 ∧ c k 1 ≤ 250) ∧ (∀ j, 0 ≤ j → j < a 65 → c (k + 1) j = a (66 + j) ∧ c (k + 1) (j + 1) = a (74 + j) ∧ a (74 + j) ≤ c k 1) ∧ (∀ i, 0 ≤ i → i < c k 1 → c (k + 2) i = opC (a (82 + 2 * i)) ∧ c (k + 3) i = a (83 + 2 * i))
def CInv (c : Int → Int → Int) (a : Int → Int) : Prop := CCnt c a ∧ CLaw c 1 a 0 6 ∧ CLaw c 6 a 32 1 ∧ CKind c a ∧ CPers c a ∧ CPled c a ∧ CTick c a ∧ CRack c a ∧ CBook c a ∧ CHand c a ∧ CList c a ∧ CLook c 11 a
def cv (M : jM) (b : Int) : Int → Int → Int := fun k j => M (b + k) j
def av (M : jM) (o : Int) : Int → Int := fun i => M 929 (o + i)
def ITape (M : jM) : Prop := M 883 1 = M 928 5 ∧ (0 ≤ M 928 5 ∧ M 928 5 ≤ 400) ∧ ∀ i, 0 ≤ i → i < M 928 5 → (0 ≤ M 931 i ∧ M 931 i ≤ 255) ∧ M 884 i = w8 (M 931 i)
def IFault (M : jM) : Prop := M 882 4 = M 928 16 ∧ M 882 5 = M 928 17 ∧ M 891 0 = 0
def IRows (M : jM) : Prop := ∀ r, 0 ≤ r → r < 4 → (M (895 + 2 * r) 0 = -1 ∧ M 946 r = -1) ∨ ((0 ≤ M 946 r ∧ M 946 r ≤ 3) ∧ (0 ≤ M 947 r ∧ M 947 r ≤ 40) ∧ M (895 + 2 * r) 0 = M 947 r ∧ M (895 + 2 * r) 1 = M 946 r ∧ ∀ i, 0 ≤ i → i < M 947 r → M (896 + 2 * r) i = M 948 (40 * r + i))
def IImg (M : jM) : Prop := ∀ q, 0 ≤ q → q < 2 → M 881 q = M 930 q ∧ (0 ≤ M 930 q ∧ M 930 q ≤ 1) ∧ (M 930 q = 1 → RInv (av M (3920 * (q + 1))) ∧ CInv (cv M (295 + 293 * q)) (av M (3920 * (q + 1))))
def Inv (M : jM) : Prop := M 928 0 = 0 ∧ RInv (M 929) ∧ CInv (cv M 1) (M 929) ∧ ITape M ∧ IFault M ∧ IRows M ∧ IImg M
