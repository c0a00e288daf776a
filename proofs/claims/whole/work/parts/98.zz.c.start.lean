/-! THE START: the literals -/
def gtm (i : Nat) : Term := .string (jso i) (jsi i)
def gxE (i : Nat) : Nat := ([142, 150, 159, 168, 180, 194, 208, 222, 237, 253, 270, 286, 304, 325, 346, 368, 392, 417, 440, 465, 490] : List Nat).getD i 0
def gxC (i : Nat) : Nat := ([143, 151, 160, 169, 181, 195, 209, 223, 238, 254, 271, 287, 305, 326, 347, 369, 393, 418, 441, 466, 491] : List Nat).getD i 0
def gxA (i : Nat) : Nat := ([144, 152, 161, 170, 182, 196, 210, 224, 239, 255, 272, 288, 306, 327, 348, 370, 394, 419, 442, 467, 492] : List Nat).getD i 0
def gxL (i : Nat) : Nat := ([145, 153, 162, 171, 183, 197, 211, 225, 240, 256, 273, 289, 307, 328, 349, 371, 395, 420, 443, 468, 493] : List Nat).getD i 0
def gxB (i : Nat) : Nat := ([146, 154, 163, 172, 184, 198, 212, 226, 241, 257, 274, 290, 308, 329, 350, 372, 396, 421, 444, 469, 494] : List Nat).getD i 0
def gxN (i j : Nat) : Nat := (([[0, 158, 166, 177, 190, 203, 216, 230, 245, 261, 276, 293, 313, 333, 354, 377, 401, 423, 447, 471, 593], [158, 0, 167, 178, 191, 204, 217, 231, 246, 262, 277, 294, 314, 334, 355, 378, 402, 424, 448, 472, 594], [166, 167, 0, 179, 192, 205, 218, 232, 247, 263, 278, 295, 315, 335, 356, 379, 403, 425, 449, 473, 595], [177, 178, 179, 0, 193, 206, 219, 233, 248, 264, 279, 296, 316, 336, 357, 380, 404, 426, 450, 474, 596], [190, 191, 192, 193, 0, 207, 220, 234, 249, 265, 280, 297, 317, 337, 358, 381, 405, 427, 451, 475, 597], [203, 204, 205, 206, 207, 0, 221, 235, 250, 266, 281, 298, 318, 338, 359, 382, 406, 428, 452, 476, 598], [216, 217, 218, 219, 220, 221, 0, 236, 251, 267, 282, 299, 319, 339, 360, 383, 407, 429, 453, 477, 599], [230, 231, 232, 233, 234, 235, 236, 0, 252, 268, 283, 300, 320, 340, 361, 384, 408, 430, 454, 478, 600], [245, 246, 247, 248, 249, 250, 251, 252, 0, 269, 284, 301, 321, 341, 362, 385, 409, 431, 455, 479, 601], [261, 262, 263, 264, 265, 266, 267, 268, 269, 0, 285, 302, 322, 342, 363, 386, 410, 432, 456, 480, 602], [276, 277, 278, 279, 280, 281, 282, 283, 284, 285, 0, 303, 323, 343, 364, 387, 411, 433, 457, 481, 603], [293, 294, 295, 296, 297, 298, 299, 300, 301, 302, 303, 0, 324, 344, 365, 388, 412, 434, 458, 482, 604], [313, 314, 315, 316, 317, 318, 319, 320, 321, 322, 323, 324, 0, 345, 366, 389, 413, 435, 459, 483, 605], [333, 334, 335, 336, 337, 338, 339, 340, 341, 342, 343, 344, 345, 0, 367, 390, 414, 436, 460, 484, 606], [354, 355, 356, 357, 358, 359, 360, 361, 362, 363, 364, 365, 366, 367, 0, 391, 415, 437, 461, 485, 607], [377, 378, 379, 380, 381, 382, 383, 384, 385, 386, 387, 388, 389, 390, 391, 0, 416, 438, 462, 486, 608], [401, 402, 403, 404, 405, 406, 407, 408, 409, 410, 411, 412, 413, 414, 415, 416, 0, 439, 463, 487, 609], [423, 424, 425, 426, 427, 428, 429, 430, 431, 432, 433, 434, 435, 436, 437, 438, 439, 0, 464, 488, 610], [447, 448, 449, 450, 451, 452, 453, 454, 455, 456, 457, 458, 459, 460, 461, 462, 463, 464, 0, 489, 611], [471, 472, 473, 474, 475, 476, 477, 478, 479, 480, 481, 482, 483, 484, 485, 486, 487, 488, 489, 0, 612], [593, 594, 595, 596, 597, 598, 599, 600, 601, 602, 603, 604, 605, 606, 607, 608, 609, 610, 611, 612, 0]] : List (List Nat)).getD i []).getD j 0
theorem gsE : ∀ i : Nat, i < 21 → gvl[gxE i]? = some (Cond.exactly (gtm i) "java/lang/String") := by decide +kernel
theorem gsC : ∀ i : Nat, i < 21 → gvl[gxC i]? = some (Cond.eq (.field (gtm i) "java/lang/String" "coder" "B") (.int 0)) := by decide +kernel
theorem gsA : ∀ i : Nat, i < 21 → gvl[gxA i]? = some (Cond.arrayOf (.field (gtm i) "java/lang/String" "value" "[B") .byte) := by decide +kernel
theorem gsL : ∀ i : Nat, i < 21 → gvl[gxL i]? = some (Cond.eq (.length (.field (gtm i) "java/lang/String" "value" "[B")) (.int (Int32.ofNat (jlen.getD i 0)))) := by decide +kernel
theorem gsB : ∀ i : Nat, i < 21 → ∀ j : Nat, j < jlen.getD i 0 → gvl[gxB i + j]? = some (Cond.eq (.elem (.field (gtm i) "java/lang/String" "value" "[B") (.int (Int32.ofNat j))) (.int ((jbyt.getD i []).getD j 0))) := by decide +kernel
theorem gsN : ∀ i : Nat, i < 21 → ∀ j : Nat, j < 21 → i ≠ j → gvl[gxN i j]? = some (Cond.not (Cond.eq (gtm i) (gtm j))) ∨ gvl[gxN i j]? = some (Cond.not (Cond.eq (gtm j) (gtm i))) := by decide +kernel
theorem gsl : ∀ i : Nat, i < 21 → jlen.getD i 0 < 2 ^ 31 := by decide +kernel
theorem st_S {args : Array Value} {s : State} {A : Nat → Prop} (hg : (Cond.and given_1 narrow_1).before args s = true) (hA : ∀ a : Nat, a < s.heap.size → ¬ A a) : ∃ adK adV : Nat → Nat, vk_S 21 jlen jbyt adK adV A s s.heap ∧ ∀ i : Nat, i < 21 → (gtm i).eval args s none [] s = some (.ref (adK i)) :=
  vk_Sof gsl (fun i h => gv_at hg _ (gsE i h)) (fun i h => gv_at hg _ (gsC i h)) (fun i h => gv_at hg _ (gsA i h)) (fun i h => gv_at hg _ (gsL i h)) (fun i h j hj => gv_at hg _ (gsB i h j hj)) (fun i j hi hj hn => (gsN i hi j hj hn).imp (gv_at hg _) (gv_at hg _)) hA
theorem gsR : ∀ i : Nat, i < 21 → (Cond.stringRef (jso i) (jsi i) (jstx i)) ∈ lw_tbl := by
  intro i hi
  match i, hi with
  | 0, _ => exact wn_554
  | 1, _ => exact wn_624
  | 2, _ => exact wn_629
  | 3, _ => exact wn_638
  | 4, _ => exact wn_639
  | 5, _ => exact wn_640
  | 6, _ => exact wn_641
  | 7, _ => exact wn_642
  | 8, _ => exact wn_643
  | 9, _ => exact wn_660
  | 10, _ => exact wn_661
  | 11, _ => exact wn_674
  | 12, _ => exact wn_687
  | 13, _ => exact wn_688
  | 14, _ => exact wn_689
  | 15, _ => exact wn_690
  | 16, _ => exact wn_691
  | 17, _ => exact wn_692
  | 18, _ => exact wn_697
  | 19, _ => exact wn_698
  | 20, _ => exact wn_1408
  | i + 21, hi => exact absurd hi (by omega)
