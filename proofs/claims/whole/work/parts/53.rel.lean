/-! ===== the memory behind the constructors: what never changes ===== -/
/-! the quoted words: where they stand in the text, how long they are, their codes -/
def gWs (w : Nat) : Nat := [0, 5, 10, 16, 22, 29, 35, 41, 47, 52, 58, 61, 64, 70, 76, 79, 84, 89, 94].getD w 0
def gWl (w : Nat) : Nat := [4, 4, 5, 5, 6, 5, 5, 5, 4, 5, 2, 2, 5, 5, 2, 4, 4, 4, 4].getD w 0
/-- letters as a code of five bits a letter -/
def gC5 (f : Nat → Int32) : Nat → Int64
  | 0 => 0
  | j + 1 => ((gC5 f j) <<< ((5 : Int32).toInt64 &&& 63)) ||| ((f j - 96 : Int32)).toInt64
def gQ (w : Nat) : Int64 := gC5 (fun i => gd_tx (gWs w + i)) (gWl w)
def isC (c d : Nat) : Prop := (c = 32 ∧ d = 45) ∨ (c = 45 ∧ d = 32)
def isM (n p : Nat) : Prop := (n = 700 ∧ p = 716) ∨ (n = 716 ∧ p = 700)
/-- refs, ids and room as both constructors leave them; c, d: rules and spare; n, p: now and p -/
def gK (c d n p : Nat) (m : gd_M) : Prop :=
  (gN m = 758) ∧
  (gU m = 48771) ∧
  (gL m ≤ 3072) ∧
  (isC c d) ∧
  (isM n p) ∧
  (gR m 8 0 = 9) ∧
  (gR m 8 1 = 10) ∧
  (gR m 8 2 = 15) ∧
  (gR m 8 3 = 20) ∧
  (gR m 8 4 = 27) ∧
  (gR m 8 5 = 28) ∧
  (gR m 8 6 = 29) ∧
  (gR m 8 7 = 30) ∧
  (gR m 8 8 = 31) ∧
  (gR m 10 0 = 11) ∧
  (gR m 10 1 = 13) ∧
  (gR m 10 2 = 14) ∧
  (gR m 11 0 = 12) ∧
  (gR m 15 0 = 16) ∧
  (gR m 15 1 = 17) ∧
  (gR m 15 2 = 18) ∧
  (gR m 15 3 = 19) ∧
  (gR m 20 0 = 21) ∧
  (gR m 20 1 = 22) ∧
  (gR m 20 2 = 23) ∧
  (gR m 20 3 = 24) ∧
  (gR m 20 4 = 25) ∧
  (gR m 20 5 = 26) ∧
  (gR m 698 0 = 699) ∧
  (gR m 698 3 = 732) ∧
  (gR m 698 16 = 733) ∧
  (gR m 698 17 = 734) ∧
  (gR m 698 20 = 735) ∧
  (gR m 698 21 = 736) ∧
  (gR m 698 22 = 737) ∧
  (gR m 698 23 = 738) ∧
  (gR m 698 24 = 739) ∧
  (gR m 698 25 = 740) ∧
  (gR m 698 26 = 741) ∧
  (gR m 698 27 = 742) ∧
  (gR m 698 28 = 743) ∧
  (gR m 698 29 = 744) ∧
  (gR m 698 30 = 745) ∧
  (gR m 698 31 = 746) ∧
  (gR m 698 32 = 747) ∧
  (gR m 698 33 = 748) ∧
  (gR m 698 34 = 749) ∧
  (gR m 698 35 = 750) ∧
  (gR m 698 36 = 751) ∧
  (gR m 698 37 = 752) ∧
  (gR m 698 38 = 753) ∧
  (gR m 698 39 = 754) ∧
  (gR m 698 41 = 755) ∧
  (gR m 698 42 = 756) ∧
  (gR m 698 44 = 757) ∧
  (gR m 8 9 = c) ∧
  (gR m 8 10 = d) ∧
  (gR m 698 1 = n) ∧
  (gR m 698 2 = p) ∧
  (∀ x, x = 32 ∨ x = 45 → ∀ k < 12, gR m x k = x + 1 + k) ∧
  (∀ x, x = 700 ∨ x = 716 → ∀ k < 15, gR m x (3 + k) = x + 1 + k) ∧
  (∀ r < 160, gR m 27 r = 58 + 4 * r ∧ gR m (58 + 4 * r) 0 = 59 + 4 * r ∧ gR m (58 + 4 * r) 1 = 60 + 4 * r ∧ gR m (58 + 4 * r) 2 = 61 + 4 * r) ∧
  (∀ w < 19, gJ m 12 w = gQ w)
theorem gK_N {c d n p : Nat} {m : gd_M} (h : gK c d n p m) : gN m = 758 := h.1
theorem gK_U {c d n p : Nat} {m : gd_M} (h : gK c d n p m) : gU m = 48771 := h.2.1
theorem gK_L {c d n p : Nat} {m : gd_M} (h : gK c d n p m) : gL m ≤ 3072 := h.2.2.1
theorem gK_C {c d n p : Nat} {m : gd_M} (h : gK c d n p m) : isC c d := h.2.2.2.1
theorem gK_M {c d n p : Nat} {m : gd_M} (h : gK c d n p m) : isM n p := h.2.2.2.2.1
theorem gK_8_0 {c d n p : Nat} {m : gd_M} (h : gK c d n p m) : gR m 8 0 = 9 := h.2.2.2.2.2.1
theorem gK_8_1 {c d n p : Nat} {m : gd_M} (h : gK c d n p m) : gR m 8 1 = 10 := h.2.2.2.2.2.2.1
theorem gK_8_2 {c d n p : Nat} {m : gd_M} (h : gK c d n p m) : gR m 8 2 = 15 := h.2.2.2.2.2.2.2.1
theorem gK_8_3 {c d n p : Nat} {m : gd_M} (h : gK c d n p m) : gR m 8 3 = 20 := h.2.2.2.2.2.2.2.2.1
theorem gK_8_4 {c d n p : Nat} {m : gd_M} (h : gK c d n p m) : gR m 8 4 = 27 := h.2.2.2.2.2.2.2.2.2.1
theorem gK_8_5 {c d n p : Nat} {m : gd_M} (h : gK c d n p m) : gR m 8 5 = 28 := h.2.2.2.2.2.2.2.2.2.2.1
theorem gK_8_6 {c d n p : Nat} {m : gd_M} (h : gK c d n p m) : gR m 8 6 = 29 := h.2.2.2.2.2.2.2.2.2.2.2.1
theorem gK_8_7 {c d n p : Nat} {m : gd_M} (h : gK c d n p m) : gR m 8 7 = 30 := h.2.2.2.2.2.2.2.2.2.2.2.2.1
theorem gK_8_8 {c d n p : Nat} {m : gd_M} (h : gK c d n p m) : gR m 8 8 = 31 := h.2.2.2.2.2.2.2.2.2.2.2.2.2.1
theorem gK_10_0 {c d n p : Nat} {m : gd_M} (h : gK c d n p m) : gR m 10 0 = 11 := h.2.2.2.2.2.2.2.2.2.2.2.2.2.2.1
theorem gK_10_1 {c d n p : Nat} {m : gd_M} (h : gK c d n p m) : gR m 10 1 = 13 := h.2.2.2.2.2.2.2.2.2.2.2.2.2.2.2.1
theorem gK_10_2 {c d n p : Nat} {m : gd_M} (h : gK c d n p m) : gR m 10 2 = 14 := h.2.2.2.2.2.2.2.2.2.2.2.2.2.2.2.2.1
theorem gK_11_0 {c d n p : Nat} {m : gd_M} (h : gK c d n p m) : gR m 11 0 = 12 := h.2.2.2.2.2.2.2.2.2.2.2.2.2.2.2.2.2.1
theorem gK_15_0 {c d n p : Nat} {m : gd_M} (h : gK c d n p m) : gR m 15 0 = 16 := h.2.2.2.2.2.2.2.2.2.2.2.2.2.2.2.2.2.2.1
theorem gK_15_1 {c d n p : Nat} {m : gd_M} (h : gK c d n p m) : gR m 15 1 = 17 := h.2.2.2.2.2.2.2.2.2.2.2.2.2.2.2.2.2.2.2.1
theorem gK_15_2 {c d n p : Nat} {m : gd_M} (h : gK c d n p m) : gR m 15 2 = 18 := h.2.2.2.2.2.2.2.2.2.2.2.2.2.2.2.2.2.2.2.2.1
theorem gK_15_3 {c d n p : Nat} {m : gd_M} (h : gK c d n p m) : gR m 15 3 = 19 := h.2.2.2.2.2.2.2.2.2.2.2.2.2.2.2.2.2.2.2.2.2.1
theorem gK_20_0 {c d n p : Nat} {m : gd_M} (h : gK c d n p m) : gR m 20 0 = 21 := h.2.2.2.2.2.2.2.2.2.2.2.2.2.2.2.2.2.2.2.2.2.2.1
theorem gK_20_1 {c d n p : Nat} {m : gd_M} (h : gK c d n p m) : gR m 20 1 = 22 := h.2.2.2.2.2.2.2.2.2.2.2.2.2.2.2.2.2.2.2.2.2.2.2.1
theorem gK_20_2 {c d n p : Nat} {m : gd_M} (h : gK c d n p m) : gR m 20 2 = 23 := h.2.2.2.2.2.2.2.2.2.2.2.2.2.2.2.2.2.2.2.2.2.2.2.2.1
theorem gK_20_3 {c d n p : Nat} {m : gd_M} (h : gK c d n p m) : gR m 20 3 = 24 := h.2.2.2.2.2.2.2.2.2.2.2.2.2.2.2.2.2.2.2.2.2.2.2.2.2.1
theorem gK_20_4 {c d n p : Nat} {m : gd_M} (h : gK c d n p m) : gR m 20 4 = 25 := h.2.2.2.2.2.2.2.2.2.2.2.2.2.2.2.2.2.2.2.2.2.2.2.2.2.2.1
theorem gK_20_5 {c d n p : Nat} {m : gd_M} (h : gK c d n p m) : gR m 20 5 = 26 := h.2.2.2.2.2.2.2.2.2.2.2.2.2.2.2.2.2.2.2.2.2.2.2.2.2.2.2.1
theorem gK_698_0 {c d n p : Nat} {m : gd_M} (h : gK c d n p m) : gR m 698 0 = 699 := h.2.2.2.2.2.2.2.2.2.2.2.2.2.2.2.2.2.2.2.2.2.2.2.2.2.2.2.2.1
theorem gK_698_3 {c d n p : Nat} {m : gd_M} (h : gK c d n p m) : gR m 698 3 = 732 := h.2.2.2.2.2.2.2.2.2.2.2.2.2.2.2.2.2.2.2.2.2.2.2.2.2.2.2.2.2.1
theorem gK_698_16 {c d n p : Nat} {m : gd_M} (h : gK c d n p m) : gR m 698 16 = 733 := h.2.2.2.2.2.2.2.2.2.2.2.2.2.2.2.2.2.2.2.2.2.2.2.2.2.2.2.2.2.2.1
theorem gK_698_17 {c d n p : Nat} {m : gd_M} (h : gK c d n p m) : gR m 698 17 = 734 := h.2.2.2.2.2.2.2.2.2.2.2.2.2.2.2.2.2.2.2.2.2.2.2.2.2.2.2.2.2.2.2.1
theorem gK_698_20 {c d n p : Nat} {m : gd_M} (h : gK c d n p m) : gR m 698 20 = 735 := h.2.2.2.2.2.2.2.2.2.2.2.2.2.2.2.2.2.2.2.2.2.2.2.2.2.2.2.2.2.2.2.2.1
theorem gK_698_21 {c d n p : Nat} {m : gd_M} (h : gK c d n p m) : gR m 698 21 = 736 := h.2.2.2.2.2.2.2.2.2.2.2.2.2.2.2.2.2.2.2.2.2.2.2.2.2.2.2.2.2.2.2.2.2.1
theorem gK_698_22 {c d n p : Nat} {m : gd_M} (h : gK c d n p m) : gR m 698 22 = 737 := h.2.2.2.2.2.2.2.2.2.2.2.2.2.2.2.2.2.2.2.2.2.2.2.2.2.2.2.2.2.2.2.2.2.2.1
theorem gK_698_23 {c d n p : Nat} {m : gd_M} (h : gK c d n p m) : gR m 698 23 = 738 := h.2.2.2.2.2.2.2.2.2.2.2.2.2.2.2.2.2.2.2.2.2.2.2.2.2.2.2.2.2.2.2.2.2.2.2.1
theorem gK_698_24 {c d n p : Nat} {m : gd_M} (h : gK c d n p m) : gR m 698 24 = 739 := h.2.2.2.2.2.2.2.2.2.2.2.2.2.2.2.2.2.2.2.2.2.2.2.2.2.2.2.2.2.2.2.2.2.2.2.2.1
theorem gK_698_25 {c d n p : Nat} {m : gd_M} (h : gK c d n p m) : gR m 698 25 = 740 := h.2.2.2.2.2.2.2.2.2.2.2.2.2.2.2.2.2.2.2.2.2.2.2.2.2.2.2.2.2.2.2.2.2.2.2.2.2.1
theorem gK_698_26 {c d n p : Nat} {m : gd_M} (h : gK c d n p m) : gR m 698 26 = 741 := h.2.2.2.2.2.2.2.2.2.2.2.2.2.2.2.2.2.2.2.2.2.2.2.2.2.2.2.2.2.2.2.2.2.2.2.2.2.2.1
theorem gK_698_27 {c d n p : Nat} {m : gd_M} (h : gK c d n p m) : gR m 698 27 = 742 := h.2.2.2.2.2.2.2.2.2.2.2.2.2.2.2.2.2.2.2.2.2.2.2.2.2.2.2.2.2.2.2.2.2.2.2.2.2.2.2.1
theorem gK_698_28 {c d n p : Nat} {m : gd_M} (h : gK c d n p m) : gR m 698 28 = 743 := h.2.2.2.2.2.2.2.2.2.2.2.2.2.2.2.2.2.2.2.2.2.2.2.2.2.2.2.2.2.2.2.2.2.2.2.2.2.2.2.2.1
theorem gK_698_29 {c d n p : Nat} {m : gd_M} (h : gK c d n p m) : gR m 698 29 = 744 := h.2.2.2.2.2.2.2.2.2.2.2.2.2.2.2.2.2.2.2.2.2.2.2.2.2.2.2.2.2.2.2.2.2.2.2.2.2.2.2.2.2.1
theorem gK_698_30 {c d n p : Nat} {m : gd_M} (h : gK c d n p m) : gR m 698 30 = 745 := h.2.2.2.2.2.2.2.2.2.2.2.2.2.2.2.2.2.2.2.2.2.2.2.2.2.2.2.2.2.2.2.2.2.2.2.2.2.2.2.2.2.2.1
theorem gK_698_31 {c d n p : Nat} {m : gd_M} (h : gK c d n p m) : gR m 698 31 = 746 := h.2.2.2.2.2.2.2.2.2.2.2.2.2.2.2.2.2.2.2.2.2.2.2.2.2.2.2.2.2.2.2.2.2.2.2.2.2.2.2.2.2.2.2.1
theorem gK_698_32 {c d n p : Nat} {m : gd_M} (h : gK c d n p m) : gR m 698 32 = 747 := h.2.2.2.2.2.2.2.2.2.2.2.2.2.2.2.2.2.2.2.2.2.2.2.2.2.2.2.2.2.2.2.2.2.2.2.2.2.2.2.2.2.2.2.2.1
theorem gK_698_33 {c d n p : Nat} {m : gd_M} (h : gK c d n p m) : gR m 698 33 = 748 := h.2.2.2.2.2.2.2.2.2.2.2.2.2.2.2.2.2.2.2.2.2.2.2.2.2.2.2.2.2.2.2.2.2.2.2.2.2.2.2.2.2.2.2.2.2.1
theorem gK_698_34 {c d n p : Nat} {m : gd_M} (h : gK c d n p m) : gR m 698 34 = 749 := h.2.2.2.2.2.2.2.2.2.2.2.2.2.2.2.2.2.2.2.2.2.2.2.2.2.2.2.2.2.2.2.2.2.2.2.2.2.2.2.2.2.2.2.2.2.2.1
theorem gK_698_35 {c d n p : Nat} {m : gd_M} (h : gK c d n p m) : gR m 698 35 = 750 := h.2.2.2.2.2.2.2.2.2.2.2.2.2.2.2.2.2.2.2.2.2.2.2.2.2.2.2.2.2.2.2.2.2.2.2.2.2.2.2.2.2.2.2.2.2.2.2.1
theorem gK_698_36 {c d n p : Nat} {m : gd_M} (h : gK c d n p m) : gR m 698 36 = 751 := h.2.2.2.2.2.2.2.2.2.2.2.2.2.2.2.2.2.2.2.2.2.2.2.2.2.2.2.2.2.2.2.2.2.2.2.2.2.2.2.2.2.2.2.2.2.2.2.2.1
theorem gK_698_37 {c d n p : Nat} {m : gd_M} (h : gK c d n p m) : gR m 698 37 = 752 := h.2.2.2.2.2.2.2.2.2.2.2.2.2.2.2.2.2.2.2.2.2.2.2.2.2.2.2.2.2.2.2.2.2.2.2.2.2.2.2.2.2.2.2.2.2.2.2.2.2.1
theorem gK_698_38 {c d n p : Nat} {m : gd_M} (h : gK c d n p m) : gR m 698 38 = 753 := h.2.2.2.2.2.2.2.2.2.2.2.2.2.2.2.2.2.2.2.2.2.2.2.2.2.2.2.2.2.2.2.2.2.2.2.2.2.2.2.2.2.2.2.2.2.2.2.2.2.2.1
theorem gK_698_39 {c d n p : Nat} {m : gd_M} (h : gK c d n p m) : gR m 698 39 = 754 := h.2.2.2.2.2.2.2.2.2.2.2.2.2.2.2.2.2.2.2.2.2.2.2.2.2.2.2.2.2.2.2.2.2.2.2.2.2.2.2.2.2.2.2.2.2.2.2.2.2.2.2.1
theorem gK_698_41 {c d n p : Nat} {m : gd_M} (h : gK c d n p m) : gR m 698 41 = 755 := h.2.2.2.2.2.2.2.2.2.2.2.2.2.2.2.2.2.2.2.2.2.2.2.2.2.2.2.2.2.2.2.2.2.2.2.2.2.2.2.2.2.2.2.2.2.2.2.2.2.2.2.2.1
theorem gK_698_42 {c d n p : Nat} {m : gd_M} (h : gK c d n p m) : gR m 698 42 = 756 := h.2.2.2.2.2.2.2.2.2.2.2.2.2.2.2.2.2.2.2.2.2.2.2.2.2.2.2.2.2.2.2.2.2.2.2.2.2.2.2.2.2.2.2.2.2.2.2.2.2.2.2.2.2.1
theorem gK_698_44 {c d n p : Nat} {m : gd_M} (h : gK c d n p m) : gR m 698 44 = 757 := h.2.2.2.2.2.2.2.2.2.2.2.2.2.2.2.2.2.2.2.2.2.2.2.2.2.2.2.2.2.2.2.2.2.2.2.2.2.2.2.2.2.2.2.2.2.2.2.2.2.2.2.2.2.2.1
theorem gK_c {c d n p : Nat} {m : gd_M} (h : gK c d n p m) : gR m 8 9 = c := h.2.2.2.2.2.2.2.2.2.2.2.2.2.2.2.2.2.2.2.2.2.2.2.2.2.2.2.2.2.2.2.2.2.2.2.2.2.2.2.2.2.2.2.2.2.2.2.2.2.2.2.2.2.2.2.1
theorem gK_d {c d n p : Nat} {m : gd_M} (h : gK c d n p m) : gR m 8 10 = d := h.2.2.2.2.2.2.2.2.2.2.2.2.2.2.2.2.2.2.2.2.2.2.2.2.2.2.2.2.2.2.2.2.2.2.2.2.2.2.2.2.2.2.2.2.2.2.2.2.2.2.2.2.2.2.2.2.1
theorem gK_n {c d n p : Nat} {m : gd_M} (h : gK c d n p m) : gR m 698 1 = n := h.2.2.2.2.2.2.2.2.2.2.2.2.2.2.2.2.2.2.2.2.2.2.2.2.2.2.2.2.2.2.2.2.2.2.2.2.2.2.2.2.2.2.2.2.2.2.2.2.2.2.2.2.2.2.2.2.2.1
theorem gK_p {c d n p : Nat} {m : gd_M} (h : gK c d n p m) : gR m 698 2 = p := h.2.2.2.2.2.2.2.2.2.2.2.2.2.2.2.2.2.2.2.2.2.2.2.2.2.2.2.2.2.2.2.2.2.2.2.2.2.2.2.2.2.2.2.2.2.2.2.2.2.2.2.2.2.2.2.2.2.2.1
theorem gK_co {c d n p : Nat} {m : gd_M} (h : gK c d n p m) : ∀ x, x = 32 ∨ x = 45 → ∀ k < 12, gR m x k = x + 1 + k := h.2.2.2.2.2.2.2.2.2.2.2.2.2.2.2.2.2.2.2.2.2.2.2.2.2.2.2.2.2.2.2.2.2.2.2.2.2.2.2.2.2.2.2.2.2.2.2.2.2.2.2.2.2.2.2.2.2.2.2.1
theorem gK_mc {c d n p : Nat} {m : gd_M} (h : gK c d n p m) : ∀ x, x = 700 ∨ x = 716 → ∀ k < 15, gR m x (3 + k) = x + 1 + k := h.2.2.2.2.2.2.2.2.2.2.2.2.2.2.2.2.2.2.2.2.2.2.2.2.2.2.2.2.2.2.2.2.2.2.2.2.2.2.2.2.2.2.2.2.2.2.2.2.2.2.2.2.2.2.2.2.2.2.2.2.1
theorem gK_rw {c d n p : Nat} {m : gd_M} (h : gK c d n p m) : ∀ r < 160, gR m 27 r = 58 + 4 * r ∧ gR m (58 + 4 * r) 0 = 59 + 4 * r ∧ gR m (58 + 4 * r) 1 = 60 + 4 * r ∧ gR m (58 + 4 * r) 2 = 61 + 4 * r := h.2.2.2.2.2.2.2.2.2.2.2.2.2.2.2.2.2.2.2.2.2.2.2.2.2.2.2.2.2.2.2.2.2.2.2.2.2.2.2.2.2.2.2.2.2.2.2.2.2.2.2.2.2.2.2.2.2.2.2.2.2.1
theorem gK_qt {c d n p : Nat} {m : gd_M} (h : gK c d n p m) : ∀ w < 19, gJ m 12 w = gQ w := h.2.2.2.2.2.2.2.2.2.2.2.2.2.2.2.2.2.2.2.2.2.2.2.2.2.2.2.2.2.2.2.2.2.2.2.2.2.2.2.2.2.2.2.2.2.2.2.2.2.2.2.2.2.2.2.2.2.2.2.2.2.2
section GKK
variable {c d n p : Nat} {m : gd_M}
theorem gK_c1 (h : gK c d n p m) : c = 32 ∨ c = 45 := by rcases gK_C h with q | q <;> simp [q.1]
theorem gK_d1 (h : gK c d n p m) : d = 32 ∨ d = 45 := by rcases gK_C h with q | q <;> simp [q.2]
theorem gK_n1 (h : gK c d n p m) : n = 700 ∨ n = 716 := by rcases gK_M h with q | q <;> simp [q.1]
theorem gK_p1 (h : gK c d n p m) : p = 700 ∨ p = 716 := by rcases gK_M h with q | q <;> simp [q.2]
theorem gK_c_0 (h : gK c d n p m) : gR m c 0 = c + 1 := gK_co h c (gK_c1 h) 0 (by decide)
theorem gK_d_0 (h : gK c d n p m) : gR m d 0 = d + 1 := gK_co h d (gK_d1 h) 0 (by decide)
theorem gK_c_1 (h : gK c d n p m) : gR m c 1 = c + 2 := gK_co h c (gK_c1 h) 1 (by decide)
theorem gK_d_1 (h : gK c d n p m) : gR m d 1 = d + 2 := gK_co h d (gK_d1 h) 1 (by decide)
theorem gK_c_2 (h : gK c d n p m) : gR m c 2 = c + 3 := gK_co h c (gK_c1 h) 2 (by decide)
theorem gK_d_2 (h : gK c d n p m) : gR m d 2 = d + 3 := gK_co h d (gK_d1 h) 2 (by decide)
theorem gK_c_3 (h : gK c d n p m) : gR m c 3 = c + 4 := gK_co h c (gK_c1 h) 3 (by decide)
theorem gK_d_3 (h : gK c d n p m) : gR m d 3 = d + 4 := gK_co h d (gK_d1 h) 3 (by decide)
theorem gK_c_4 (h : gK c d n p m) : gR m c 4 = c + 5 := gK_co h c (gK_c1 h) 4 (by decide)
theorem gK_d_4 (h : gK c d n p m) : gR m d 4 = d + 5 := gK_co h d (gK_d1 h) 4 (by decide)
theorem gK_c_5 (h : gK c d n p m) : gR m c 5 = c + 6 := gK_co h c (gK_c1 h) 5 (by decide)
theorem gK_d_5 (h : gK c d n p m) : gR m d 5 = d + 6 := gK_co h d (gK_d1 h) 5 (by decide)
theorem gK_c_6 (h : gK c d n p m) : gR m c 6 = c + 7 := gK_co h c (gK_c1 h) 6 (by decide)
theorem gK_d_6 (h : gK c d n p m) : gR m d 6 = d + 7 := gK_co h d (gK_d1 h) 6 (by decide)
theorem gK_c_7 (h : gK c d n p m) : gR m c 7 = c + 8 := gK_co h c (gK_c1 h) 7 (by decide)
theorem gK_d_7 (h : gK c d n p m) : gR m d 7 = d + 8 := gK_co h d (gK_d1 h) 7 (by decide)
theorem gK_c_8 (h : gK c d n p m) : gR m c 8 = c + 9 := gK_co h c (gK_c1 h) 8 (by decide)
theorem gK_d_8 (h : gK c d n p m) : gR m d 8 = d + 9 := gK_co h d (gK_d1 h) 8 (by decide)
theorem gK_c_9 (h : gK c d n p m) : gR m c 9 = c + 10 := gK_co h c (gK_c1 h) 9 (by decide)
theorem gK_d_9 (h : gK c d n p m) : gR m d 9 = d + 10 := gK_co h d (gK_d1 h) 9 (by decide)
theorem gK_c_10 (h : gK c d n p m) : gR m c 10 = c + 11 := gK_co h c (gK_c1 h) 10 (by decide)
theorem gK_d_10 (h : gK c d n p m) : gR m d 10 = d + 11 := gK_co h d (gK_d1 h) 10 (by decide)
theorem gK_c_11 (h : gK c d n p m) : gR m c 11 = c + 12 := gK_co h c (gK_c1 h) 11 (by decide)
theorem gK_d_11 (h : gK c d n p m) : gR m d 11 = d + 12 := gK_co h d (gK_d1 h) 11 (by decide)
theorem gK_n_3 (h : gK c d n p m) : gR m n 3 = n + 1 := gK_mc h n (gK_n1 h) 0 (by decide)
theorem gK_p_3 (h : gK c d n p m) : gR m p 3 = p + 1 := gK_mc h p (gK_p1 h) 0 (by decide)
theorem gK_n_4 (h : gK c d n p m) : gR m n 4 = n + 2 := gK_mc h n (gK_n1 h) 1 (by decide)
theorem gK_p_4 (h : gK c d n p m) : gR m p 4 = p + 2 := gK_mc h p (gK_p1 h) 1 (by decide)
theorem gK_n_5 (h : gK c d n p m) : gR m n 5 = n + 3 := gK_mc h n (gK_n1 h) 2 (by decide)
theorem gK_p_5 (h : gK c d n p m) : gR m p 5 = p + 3 := gK_mc h p (gK_p1 h) 2 (by decide)
theorem gK_n_6 (h : gK c d n p m) : gR m n 6 = n + 4 := gK_mc h n (gK_n1 h) 3 (by decide)
theorem gK_p_6 (h : gK c d n p m) : gR m p 6 = p + 4 := gK_mc h p (gK_p1 h) 3 (by decide)
theorem gK_n_7 (h : gK c d n p m) : gR m n 7 = n + 5 := gK_mc h n (gK_n1 h) 4 (by decide)
theorem gK_p_7 (h : gK c d n p m) : gR m p 7 = p + 5 := gK_mc h p (gK_p1 h) 4 (by decide)
theorem gK_n_8 (h : gK c d n p m) : gR m n 8 = n + 6 := gK_mc h n (gK_n1 h) 5 (by decide)
theorem gK_p_8 (h : gK c d n p m) : gR m p 8 = p + 6 := gK_mc h p (gK_p1 h) 5 (by decide)
theorem gK_n_9 (h : gK c d n p m) : gR m n 9 = n + 7 := gK_mc h n (gK_n1 h) 6 (by decide)
theorem gK_p_9 (h : gK c d n p m) : gR m p 9 = p + 7 := gK_mc h p (gK_p1 h) 6 (by decide)
theorem gK_n_10 (h : gK c d n p m) : gR m n 10 = n + 8 := gK_mc h n (gK_n1 h) 7 (by decide)
theorem gK_p_10 (h : gK c d n p m) : gR m p 10 = p + 8 := gK_mc h p (gK_p1 h) 7 (by decide)
theorem gK_n_11 (h : gK c d n p m) : gR m n 11 = n + 9 := gK_mc h n (gK_n1 h) 8 (by decide)
theorem gK_p_11 (h : gK c d n p m) : gR m p 11 = p + 9 := gK_mc h p (gK_p1 h) 8 (by decide)
theorem gK_n_12 (h : gK c d n p m) : gR m n 12 = n + 10 := gK_mc h n (gK_n1 h) 9 (by decide)
theorem gK_p_12 (h : gK c d n p m) : gR m p 12 = p + 10 := gK_mc h p (gK_p1 h) 9 (by decide)
theorem gK_n_13 (h : gK c d n p m) : gR m n 13 = n + 11 := gK_mc h n (gK_n1 h) 10 (by decide)
theorem gK_p_13 (h : gK c d n p m) : gR m p 13 = p + 11 := gK_mc h p (gK_p1 h) 10 (by decide)
theorem gK_n_14 (h : gK c d n p m) : gR m n 14 = n + 12 := gK_mc h n (gK_n1 h) 11 (by decide)
theorem gK_p_14 (h : gK c d n p m) : gR m p 14 = p + 12 := gK_mc h p (gK_p1 h) 11 (by decide)
theorem gK_n_15 (h : gK c d n p m) : gR m n 15 = n + 13 := gK_mc h n (gK_n1 h) 12 (by decide)
theorem gK_p_15 (h : gK c d n p m) : gR m p 15 = p + 13 := gK_mc h p (gK_p1 h) 12 (by decide)
theorem gK_n_16 (h : gK c d n p m) : gR m n 16 = n + 14 := gK_mc h n (gK_n1 h) 13 (by decide)
theorem gK_p_16 (h : gK c d n p m) : gR m p 16 = p + 14 := gK_mc h p (gK_p1 h) 13 (by decide)
theorem gK_n_17 (h : gK c d n p m) : gR m n 17 = n + 15 := gK_mc h n (gK_n1 h) 14 (by decide)
theorem gK_p_17 (h : gK c d n p m) : gR m p 17 = p + 15 := gK_mc h p (gK_p1 h) 14 (by decide)
theorem gK_w (h : gK c d n p m) {a k : Nat} {x : Int32} : gK c d n p (wI m a k x) := h
end GKK
/-! guards over constant ids -/
theorem gok_8 : gd_ok 758 8 6 = true := by decide +kernel
theorem gok_10 : gd_ok 758 10 3 = true := by decide +kernel
theorem gok_11 : gd_ok 758 11 5 = true := by decide +kernel
theorem gok_15 : gd_ok 758 15 0 = true := by decide +kernel
theorem gok_20 : gd_ok 758 20 2 = true := by decide +kernel
theorem gok_698 : gd_ok 758 698 9 = true := by decide +kernel
theorem gok_699 : gd_ok 758 699 8 = true := by decide +kernel
theorem goA_9 {i : Int32} : gd_okA 758 9 12 i = gd_in i 3000 := by unfold gd_okA; rw [show gd_KD 9 = 12 from by decide +kernel, show gd_LN 9 = 3000 from by decide +kernel]; rfl
theorem goA_12 {i : Int32} : gd_okA 758 12 13 i = gd_in i 19 := by unfold gd_okA; rw [show gd_KD 12 = 13 from by decide +kernel, show gd_LN 12 = 19 from by decide +kernel]; rfl
theorem goA_13 {i : Int32} : gd_okA 758 13 13 i = gd_in i 30 := by unfold gd_okA; rw [show gd_KD 13 = 13 from by decide +kernel, show gd_LN 13 = 30 from by decide +kernel]; rfl
theorem goA_14 {i : Int32} : gd_okA 758 14 13 i = gd_in i 10 := by unfold gd_okA; rw [show gd_KD 14 = 13 from by decide +kernel, show gd_LN 14 = 10 from by decide +kernel]; rfl
theorem goA_16 {i : Int32} : gd_okA 758 16 10 i = gd_in i 1280 := by unfold gd_okA; rw [show gd_KD 16 = 10 from by decide +kernel, show gd_LN 16 = 1280 from by decide +kernel]; rfl
theorem goA_17 {i : Int32} : gd_okA 758 17 10 i = gd_in i 1280 := by unfold gd_okA; rw [show gd_KD 17 = 10 from by decide +kernel, show gd_LN 17 = 1280 from by decide +kernel]; rfl
theorem goA_18 {i : Int32} : gd_okA 758 18 10 i = gd_in i 5 := by unfold gd_okA; rw [show gd_KD 18 = 10 from by decide +kernel, show gd_LN 18 = 5 from by decide +kernel]; rfl
theorem goA_19 {i : Int32} : gd_okA 758 19 10 i = gd_in i 5 := by unfold gd_okA; rw [show gd_KD 19 = 10 from by decide +kernel, show gd_LN 19 = 5 from by decide +kernel]; rfl
theorem goA_21 {i : Int32} : gd_okA 758 21 10 i = gd_in i 40 := by unfold gd_okA; rw [show gd_KD 21 = 10 from by decide +kernel, show gd_LN 21 = 40 from by decide +kernel]; rfl
theorem goA_22 {i : Int32} : gd_okA 758 22 10 i = gd_in i 40 := by unfold gd_okA; rw [show gd_KD 22 = 10 from by decide +kernel, show gd_LN 22 = 40 from by decide +kernel]; rfl
theorem goA_23 {i : Int32} : gd_okA 758 23 10 i = gd_in i 40 := by unfold gd_okA; rw [show gd_KD 23 = 10 from by decide +kernel, show gd_LN 23 = 40 from by decide +kernel]; rfl
theorem goA_24 {i : Int32} : gd_okA 758 24 10 i = gd_in i 40 := by unfold gd_okA; rw [show gd_KD 24 = 10 from by decide +kernel, show gd_LN 24 = 40 from by decide +kernel]; rfl
theorem goA_25 {i : Int32} : gd_okA 758 25 10 i = gd_in i 10 := by unfold gd_okA; rw [show gd_KD 25 = 10 from by decide +kernel, show gd_LN 25 = 10 from by decide +kernel]; rfl
theorem goA_26 {i : Int32} : gd_okA 758 26 10 i = gd_in i 10 := by unfold gd_okA; rw [show gd_KD 26 = 10 from by decide +kernel, show gd_LN 26 = 10 from by decide +kernel]; rfl
theorem goA_27 {i : Int32} : gd_okA 758 27 14 i = gd_in i 160 := by unfold gd_okA; rw [show gd_KD 27 = 14 from by decide +kernel, show gd_LN 27 = 160 from by decide +kernel]; rfl
theorem goA_28 {i : Int32} : gd_okA 758 28 10 i = gd_in i 40 := by unfold gd_okA; rw [show gd_KD 28 = 10 from by decide +kernel, show gd_LN 28 = 40 from by decide +kernel]; rfl
theorem goA_29 {i : Int32} : gd_okA 758 29 10 i = gd_in i 40 := by unfold gd_okA; rw [show gd_KD 29 = 10 from by decide +kernel, show gd_LN 29 = 40 from by decide +kernel]; rfl
theorem goA_30 {i : Int32} : gd_okA 758 30 10 i = gd_in i 10 := by unfold gd_okA; rw [show gd_KD 30 = 10 from by decide +kernel, show gd_LN 30 = 10 from by decide +kernel]; rfl
theorem goA_31 {i : Int32} : gd_okA 758 31 10 i = gd_in i 6 := by unfold gd_okA; rw [show gd_KD 31 = 10 from by decide +kernel, show gd_LN 31 = 6 from by decide +kernel]; rfl
theorem goA_732 {i : Int32} : gd_okA 758 732 12 i = gd_in i 3000 := by unfold gd_okA; rw [show gd_KD 732 = 12 from by decide +kernel, show gd_LN 732 = 3000 from by decide +kernel]; rfl
theorem goA_733 {i : Int32} : gd_okA 758 733 11 i = gd_in i 5 := by unfold gd_okA; rw [show gd_KD 733 = 11 from by decide +kernel, show gd_LN 733 = 5 from by decide +kernel]; rfl
theorem goA_734 {i : Int32} : gd_okA 758 734 11 i = gd_in i 5 := by unfold gd_okA; rw [show gd_KD 734 = 11 from by decide +kernel, show gd_LN 734 = 5 from by decide +kernel]; rfl
theorem goA_735 {i : Int32} : gd_okA 758 735 10 i = gd_in i 40 := by unfold gd_okA; rw [show gd_KD 735 = 10 from by decide +kernel, show gd_LN 735 = 40 from by decide +kernel]; rfl
theorem goA_736 {i : Int32} : gd_okA 758 736 10 i = gd_in i 10 := by unfold gd_okA; rw [show gd_KD 736 = 10 from by decide +kernel, show gd_LN 736 = 10 from by decide +kernel]; rfl
theorem goA_737 {i : Int32} : gd_okA 758 737 11 i = gd_in i 200 := by unfold gd_okA; rw [show gd_KD 737 = 11 from by decide +kernel, show gd_LN 737 = 200 from by decide +kernel]; rfl
theorem goA_738 {i : Int32} : gd_okA 758 738 11 i = gd_in i 160 := by unfold gd_okA; rw [show gd_KD 738 = 11 from by decide +kernel, show gd_LN 738 = 160 from by decide +kernel]; rfl
theorem goA_739 {i : Int32} : gd_okA 758 739 10 i = gd_in i 160 := by unfold gd_okA; rw [show gd_KD 739 = 10 from by decide +kernel, show gd_LN 739 = 160 from by decide +kernel]; rfl
theorem goA_740 {i : Int32} : gd_okA 758 740 10 i = gd_in i 2560 := by unfold gd_okA; rw [show gd_KD 740 = 10 from by decide +kernel, show gd_LN 740 = 2560 from by decide +kernel]; rfl
theorem goA_741 {i : Int32} : gd_okA 758 741 10 i = gd_in i 960 := by unfold gd_okA; rw [show gd_KD 741 = 10 from by decide +kernel, show gd_LN 741 = 960 from by decide +kernel]; rfl
theorem goA_742 {i : Int32} : gd_okA 758 742 10 i = gd_in i 160 := by unfold gd_okA; rw [show gd_KD 742 = 10 from by decide +kernel, show gd_LN 742 = 160 from by decide +kernel]; rfl
theorem goA_743 {i : Int32} : gd_okA 758 743 10 i = gd_in i 160 := by unfold gd_okA; rw [show gd_KD 743 = 10 from by decide +kernel, show gd_LN 743 = 160 from by decide +kernel]; rfl
theorem goA_744 {i : Int32} : gd_okA 758 744 11 i = gd_in i 25600 := by unfold gd_okA; rw [show gd_KD 744 = 11 from by decide +kernel, show gd_LN 744 = 25600 from by decide +kernel]; rfl
theorem goA_745 {i : Int32} : gd_okA 758 745 10 i = gd_in i 160 := by unfold gd_okA; rw [show gd_KD 745 = 10 from by decide +kernel, show gd_LN 745 = 160 from by decide +kernel]; rfl
theorem goA_746 {i : Int32} : gd_okA 758 746 10 i = gd_in i 160 := by unfold gd_okA; rw [show gd_KD 746 = 10 from by decide +kernel, show gd_LN 746 = 160 from by decide +kernel]; rfl
theorem goA_747 {i : Int32} : gd_okA 758 747 10 i = gd_in i 160 := by unfold gd_okA; rw [show gd_KD 747 = 10 from by decide +kernel, show gd_LN 747 = 160 from by decide +kernel]; rfl
theorem goA_748 {i : Int32} : gd_okA 758 748 10 i = gd_in i 160 := by unfold gd_okA; rw [show gd_KD 748 = 10 from by decide +kernel, show gd_LN 748 = 160 from by decide +kernel]; rfl
theorem goA_749 {i : Int32} : gd_okA 758 749 11 i = gd_in i 160 := by unfold gd_okA; rw [show gd_KD 749 = 11 from by decide +kernel, show gd_LN 749 = 160 from by decide +kernel]; rfl
theorem goA_750 {i : Int32} : gd_okA 758 750 10 i = gd_in i 5 := by unfold gd_okA; rw [show gd_KD 750 = 10 from by decide +kernel, show gd_LN 750 = 5 from by decide +kernel]; rfl
theorem goA_751 {i : Int32} : gd_okA 758 751 10 i = gd_in i 40 := by unfold gd_okA; rw [show gd_KD 751 = 10 from by decide +kernel, show gd_LN 751 = 40 from by decide +kernel]; rfl
theorem goA_752 {i : Int32} : gd_okA 758 752 10 i = gd_in i 40 := by unfold gd_okA; rw [show gd_KD 752 = 10 from by decide +kernel, show gd_LN 752 = 40 from by decide +kernel]; rfl
theorem goA_753 {i : Int32} : gd_okA 758 753 10 i = gd_in i 40 := by unfold gd_okA; rw [show gd_KD 753 = 10 from by decide +kernel, show gd_LN 753 = 40 from by decide +kernel]; rfl
theorem goA_754 {i : Int32} : gd_okA 758 754 10 i = gd_in i 40 := by unfold gd_okA; rw [show gd_KD 754 = 10 from by decide +kernel, show gd_LN 754 = 40 from by decide +kernel]; rfl
theorem goA_755 {i : Int32} : gd_okA 758 755 10 i = gd_in i 10 := by unfold gd_okA; rw [show gd_KD 755 = 10 from by decide +kernel, show gd_LN 755 = 10 from by decide +kernel]; rfl
theorem goA_756 {i : Int32} : gd_okA 758 756 10 i = gd_in i 10 := by unfold gd_okA; rw [show gd_KD 756 = 10 from by decide +kernel, show gd_LN 756 = 10 from by decide +kernel]; rfl
theorem goA_757 {i : Int32} : gd_okA 758 757 10 i = gd_in i 40 := by unfold gd_okA; rw [show gd_KD 757 = 10 from by decide +kernel, show gd_LN 757 = 40 from by decide +kernel]; rfl
section GKC
variable {c d n p : Nat} {m : gd_M} {i : Int32}
theorem gokA_of {a k l : Nat} (h1 : gd_KD a = k) (h2 : decide (a < 758) = true) (h3 : gd_LN a = l) : gd_okA 758 a k i = gd_in i l := by unfold gd_okA; rw [h1, h2, h3, Nat.beq_refl]; rfl
theorem gok_c (h : gK c d n p m) : gd_ok 758 c 1 = true := by rcases gK_c1 h with q | q <;> subst q <;> decide +kernel
theorem gok_d (h : gK c d n p m) : gd_ok 758 d 1 = true := by rcases gK_d1 h with q | q <;> subst q <;> decide +kernel
theorem gok_n (h : gK c d n p m) : gd_ok 758 n 7 = true := by rcases gK_n1 h with q | q <;> subst q <;> decide +kernel
theorem gok_p (h : gK c d n p m) : gd_ok 758 p 7 = true := by rcases gK_p1 h with q | q <;> subst q <;> decide +kernel
theorem goA_c1 (h : gK c d n p m) : gd_okA 758 (c + 1) 10 i = gd_in i 30 := by rcases gK_c1 h with q | q <;> subst q <;> exact gokA_of (by decide +kernel) (by decide +kernel) (by decide +kernel)
theorem goA_c2 (h : gK c d n p m) : gd_okA 758 (c + 2) 10 i = gd_in i 30 := by rcases gK_c1 h with q | q <;> subst q <;> exact gokA_of (by decide +kernel) (by decide +kernel) (by decide +kernel)
theorem goA_c3 (h : gK c d n p m) : gd_okA 758 (c + 3) 10 i = gd_in i 30 := by rcases gK_c1 h with q | q <;> subst q <;> exact gokA_of (by decide +kernel) (by decide +kernel) (by decide +kernel)
theorem goA_c4 (h : gK c d n p m) : gd_okA 758 (c + 4) 10 i = gd_in i 20 := by rcases gK_c1 h with q | q <;> subst q <;> exact gokA_of (by decide +kernel) (by decide +kernel) (by decide +kernel)
theorem goA_c5 (h : gK c d n p m) : gd_okA 758 (c + 5) 10 i = gd_in i 20 := by rcases gK_c1 h with q | q <;> subst q <;> exact gokA_of (by decide +kernel) (by decide +kernel) (by decide +kernel)
theorem goA_c6 (h : gK c d n p m) : gd_okA 758 (c + 6) 10 i = gd_in i 20 := by rcases gK_c1 h with q | q <;> subst q <;> exact gokA_of (by decide +kernel) (by decide +kernel) (by decide +kernel)
theorem goA_c7 (h : gK c d n p m) : gd_okA 758 (c + 7) 10 i = gd_in i 10 := by rcases gK_c1 h with q | q <;> subst q <;> exact gokA_of (by decide +kernel) (by decide +kernel) (by decide +kernel)
theorem goA_c8 (h : gK c d n p m) : gd_okA 758 (c + 8) 11 i = gd_in i 10 := by rcases gK_c1 h with q | q <;> subst q <;> exact gokA_of (by decide +kernel) (by decide +kernel) (by decide +kernel)
theorem goA_c9 (h : gK c d n p m) : gd_okA 758 (c + 9) 10 i = gd_in i 5 := by rcases gK_c1 h with q | q <;> subst q <;> exact gokA_of (by decide +kernel) (by decide +kernel) (by decide +kernel)
theorem goA_c10 (h : gK c d n p m) : gd_okA 758 (c + 10) 10 i = gd_in i 5 := by rcases gK_c1 h with q | q <;> subst q <;> exact gokA_of (by decide +kernel) (by decide +kernel) (by decide +kernel)
theorem goA_c11 (h : gK c d n p m) : gd_okA 758 (c + 11) 10 i = gd_in i 5 := by rcases gK_c1 h with q | q <;> subst q <;> exact gokA_of (by decide +kernel) (by decide +kernel) (by decide +kernel)
theorem goA_c12 (h : gK c d n p m) : gd_okA 758 (c + 12) 10 i = gd_in i 12 := by rcases gK_c1 h with q | q <;> subst q <;> exact gokA_of (by decide +kernel) (by decide +kernel) (by decide +kernel)
theorem goA_d1 (h : gK c d n p m) : gd_okA 758 (d + 1) 10 i = gd_in i 30 := by rcases gK_d1 h with q | q <;> subst q <;> exact gokA_of (by decide +kernel) (by decide +kernel) (by decide +kernel)
theorem goA_d2 (h : gK c d n p m) : gd_okA 758 (d + 2) 10 i = gd_in i 30 := by rcases gK_d1 h with q | q <;> subst q <;> exact gokA_of (by decide +kernel) (by decide +kernel) (by decide +kernel)
theorem goA_d3 (h : gK c d n p m) : gd_okA 758 (d + 3) 10 i = gd_in i 30 := by rcases gK_d1 h with q | q <;> subst q <;> exact gokA_of (by decide +kernel) (by decide +kernel) (by decide +kernel)
theorem goA_d4 (h : gK c d n p m) : gd_okA 758 (d + 4) 10 i = gd_in i 20 := by rcases gK_d1 h with q | q <;> subst q <;> exact gokA_of (by decide +kernel) (by decide +kernel) (by decide +kernel)
theorem goA_d5 (h : gK c d n p m) : gd_okA 758 (d + 5) 10 i = gd_in i 20 := by rcases gK_d1 h with q | q <;> subst q <;> exact gokA_of (by decide +kernel) (by decide +kernel) (by decide +kernel)
theorem goA_d6 (h : gK c d n p m) : gd_okA 758 (d + 6) 10 i = gd_in i 20 := by rcases gK_d1 h with q | q <;> subst q <;> exact gokA_of (by decide +kernel) (by decide +kernel) (by decide +kernel)
theorem goA_d7 (h : gK c d n p m) : gd_okA 758 (d + 7) 10 i = gd_in i 10 := by rcases gK_d1 h with q | q <;> subst q <;> exact gokA_of (by decide +kernel) (by decide +kernel) (by decide +kernel)
theorem goA_d8 (h : gK c d n p m) : gd_okA 758 (d + 8) 11 i = gd_in i 10 := by rcases gK_d1 h with q | q <;> subst q <;> exact gokA_of (by decide +kernel) (by decide +kernel) (by decide +kernel)
theorem goA_d9 (h : gK c d n p m) : gd_okA 758 (d + 9) 10 i = gd_in i 5 := by rcases gK_d1 h with q | q <;> subst q <;> exact gokA_of (by decide +kernel) (by decide +kernel) (by decide +kernel)
theorem goA_d10 (h : gK c d n p m) : gd_okA 758 (d + 10) 10 i = gd_in i 5 := by rcases gK_d1 h with q | q <;> subst q <;> exact gokA_of (by decide +kernel) (by decide +kernel) (by decide +kernel)
theorem goA_d11 (h : gK c d n p m) : gd_okA 758 (d + 11) 10 i = gd_in i 5 := by rcases gK_d1 h with q | q <;> subst q <;> exact gokA_of (by decide +kernel) (by decide +kernel) (by decide +kernel)
theorem goA_d12 (h : gK c d n p m) : gd_okA 758 (d + 12) 10 i = gd_in i 12 := by rcases gK_d1 h with q | q <;> subst q <;> exact gokA_of (by decide +kernel) (by decide +kernel) (by decide +kernel)
theorem goA_n1 (h : gK c d n p m) : gd_okA 758 (n + 1) 13 i = gd_in i 31 := by rcases gK_n1 h with q | q <;> subst q <;> exact gokA_of (by decide +kernel) (by decide +kernel) (by decide +kernel)
theorem goA_n2 (h : gK c d n p m) : gd_okA 758 (n + 2) 13 i = gd_in i 31 := by rcases gK_n1 h with q | q <;> subst q <;> exact gokA_of (by decide +kernel) (by decide +kernel) (by decide +kernel)
theorem goA_n3 (h : gK c d n p m) : gd_okA 758 (n + 3) 13 i = gd_in i 11 := by rcases gK_n1 h with q | q <;> subst q <;> exact gokA_of (by decide +kernel) (by decide +kernel) (by decide +kernel)
theorem goA_n4 (h : gK c d n p m) : gd_okA 758 (n + 4) 13 i = gd_in i 11 := by rcases gK_n1 h with q | q <;> subst q <;> exact gokA_of (by decide +kernel) (by decide +kernel) (by decide +kernel)
theorem goA_n5 (h : gK c d n p m) : gd_okA 758 (n + 5) 10 i = gd_in i 31 := by rcases gK_n1 h with q | q <;> subst q <;> exact gokA_of (by decide +kernel) (by decide +kernel) (by decide +kernel)
theorem goA_n6 (h : gK c d n p m) : gd_okA 758 (n + 6) 10 i = gd_in i 31 := by rcases gK_n1 h with q | q <;> subst q <;> exact gokA_of (by decide +kernel) (by decide +kernel) (by decide +kernel)
theorem goA_n7 (h : gK c d n p m) : gd_okA 758 (n + 7) 10 i = gd_in i 31 := by rcases gK_n1 h with q | q <;> subst q <;> exact gokA_of (by decide +kernel) (by decide +kernel) (by decide +kernel)
theorem goA_n8 (h : gK c d n p m) : gd_okA 758 (n + 8) 10 i = gd_in i 21 := by rcases gK_n1 h with q | q <;> subst q <;> exact gokA_of (by decide +kernel) (by decide +kernel) (by decide +kernel)
theorem goA_n9 (h : gK c d n p m) : gd_okA 758 (n + 9) 10 i = gd_in i 21 := by rcases gK_n1 h with q | q <;> subst q <;> exact gokA_of (by decide +kernel) (by decide +kernel) (by decide +kernel)
theorem goA_n10 (h : gK c d n p m) : gd_okA 758 (n + 10) 10 i = gd_in i 21 := by rcases gK_n1 h with q | q <;> subst q <;> exact gokA_of (by decide +kernel) (by decide +kernel) (by decide +kernel)
theorem goA_n11 (h : gK c d n p m) : gd_okA 758 (n + 11) 10 i = gd_in i 11 := by rcases gK_n1 h with q | q <;> subst q <;> exact gokA_of (by decide +kernel) (by decide +kernel) (by decide +kernel)
theorem goA_n12 (h : gK c d n p m) : gd_okA 758 (n + 12) 11 i = gd_in i 11 := by rcases gK_n1 h with q | q <;> subst q <;> exact gokA_of (by decide +kernel) (by decide +kernel) (by decide +kernel)
theorem goA_n13 (h : gK c d n p m) : gd_okA 758 (n + 13) 10 i = gd_in i 5 := by rcases gK_n1 h with q | q <;> subst q <;> exact gokA_of (by decide +kernel) (by decide +kernel) (by decide +kernel)
theorem goA_n14 (h : gK c d n p m) : gd_okA 758 (n + 14) 10 i = gd_in i 5 := by rcases gK_n1 h with q | q <;> subst q <;> exact gokA_of (by decide +kernel) (by decide +kernel) (by decide +kernel)
theorem goA_n15 (h : gK c d n p m) : gd_okA 758 (n + 15) 10 i = gd_in i 5 := by rcases gK_n1 h with q | q <;> subst q <;> exact gokA_of (by decide +kernel) (by decide +kernel) (by decide +kernel)
theorem goA_p1 (h : gK c d n p m) : gd_okA 758 (p + 1) 13 i = gd_in i 31 := by rcases gK_p1 h with q | q <;> subst q <;> exact gokA_of (by decide +kernel) (by decide +kernel) (by decide +kernel)
theorem goA_p2 (h : gK c d n p m) : gd_okA 758 (p + 2) 13 i = gd_in i 31 := by rcases gK_p1 h with q | q <;> subst q <;> exact gokA_of (by decide +kernel) (by decide +kernel) (by decide +kernel)
theorem goA_p3 (h : gK c d n p m) : gd_okA 758 (p + 3) 13 i = gd_in i 11 := by rcases gK_p1 h with q | q <;> subst q <;> exact gokA_of (by decide +kernel) (by decide +kernel) (by decide +kernel)
theorem goA_p4 (h : gK c d n p m) : gd_okA 758 (p + 4) 13 i = gd_in i 11 := by rcases gK_p1 h with q | q <;> subst q <;> exact gokA_of (by decide +kernel) (by decide +kernel) (by decide +kernel)
theorem goA_p5 (h : gK c d n p m) : gd_okA 758 (p + 5) 10 i = gd_in i 31 := by rcases gK_p1 h with q | q <;> subst q <;> exact gokA_of (by decide +kernel) (by decide +kernel) (by decide +kernel)
theorem goA_p6 (h : gK c d n p m) : gd_okA 758 (p + 6) 10 i = gd_in i 31 := by rcases gK_p1 h with q | q <;> subst q <;> exact gokA_of (by decide +kernel) (by decide +kernel) (by decide +kernel)
theorem goA_p7 (h : gK c d n p m) : gd_okA 758 (p + 7) 10 i = gd_in i 31 := by rcases gK_p1 h with q | q <;> subst q <;> exact gokA_of (by decide +kernel) (by decide +kernel) (by decide +kernel)
theorem goA_p8 (h : gK c d n p m) : gd_okA 758 (p + 8) 10 i = gd_in i 21 := by rcases gK_p1 h with q | q <;> subst q <;> exact gokA_of (by decide +kernel) (by decide +kernel) (by decide +kernel)
theorem goA_p9 (h : gK c d n p m) : gd_okA 758 (p + 9) 10 i = gd_in i 21 := by rcases gK_p1 h with q | q <;> subst q <;> exact gokA_of (by decide +kernel) (by decide +kernel) (by decide +kernel)
theorem goA_p10 (h : gK c d n p m) : gd_okA 758 (p + 10) 10 i = gd_in i 21 := by rcases gK_p1 h with q | q <;> subst q <;> exact gokA_of (by decide +kernel) (by decide +kernel) (by decide +kernel)
theorem goA_p11 (h : gK c d n p m) : gd_okA 758 (p + 11) 10 i = gd_in i 11 := by rcases gK_p1 h with q | q <;> subst q <;> exact gokA_of (by decide +kernel) (by decide +kernel) (by decide +kernel)
theorem goA_p12 (h : gK c d n p m) : gd_okA 758 (p + 12) 11 i = gd_in i 11 := by rcases gK_p1 h with q | q <;> subst q <;> exact gokA_of (by decide +kernel) (by decide +kernel) (by decide +kernel)
theorem goA_p13 (h : gK c d n p m) : gd_okA 758 (p + 13) 10 i = gd_in i 5 := by rcases gK_p1 h with q | q <;> subst q <;> exact gokA_of (by decide +kernel) (by decide +kernel) (by decide +kernel)
theorem goA_p14 (h : gK c d n p m) : gd_okA 758 (p + 14) 10 i = gd_in i 5 := by rcases gK_p1 h with q | q <;> subst q <;> exact gokA_of (by decide +kernel) (by decide +kernel) (by decide +kernel)
theorem goA_p15 (h : gK c d n p m) : gd_okA 758 (p + 15) 10 i = gd_in i 5 := by rcases gK_p1 h with q | q <;> subst q <;> exact gokA_of (by decide +kernel) (by decide +kernel) (by decide +kernel)
theorem gok_row {r : Nat} (hr : r < 160) : gd_ok 758 (58 + 4 * r) 4 = true := gd_ok_t (gd_KD_row hr).1 (by omega)
theorem goA_ent {r : Nat} (hr : r < 160) : gd_okA 758 (59 + 4 * r) 10 i = gd_in i 16 := gokA_of (gd_KD_row hr).2.1 (decide_eq_true (by omega)) (gd_LN_row hr).1
theorem goA_mrk {r : Nat} (hr : r < 160) : gd_okA 758 (60 + 4 * r) 10 i = gd_in i 6 := gokA_of (gd_KD_row hr).2.2.1 (decide_eq_true (by omega)) (gd_LN_row hr).2.1
theorem goA_sen {r : Nat} (hr : r < 160) : gd_okA 758 (61 + 4 * r) 10 i = gd_in i 10 := gokA_of (gd_KD_row hr).2.2.2 (decide_eq_true (by omega)) (gd_LN_row hr).2.2
theorem gK_row (h : gK c d n p m) {r : Nat} (hr : r < 160) : gR m 27 r = 58 + 4 * r := (gK_rw h r hr).1
theorem gK_ent (h : gK c d n p m) {r : Nat} (hr : r < 160) : gR m (58 + 4 * r) 0 = 59 + 4 * r := (gK_rw h r hr).2.1
theorem gK_mrk (h : gK c d n p m) {r : Nat} (hr : r < 160) : gR m (58 + 4 * r) 1 = 60 + 4 * r := (gK_rw h r hr).2.2.1
theorem gK_sen (h : gK c d n p m) {r : Nat} (hr : r < 160) : gR m (58 + 4 * r) 2 = 61 + 4 * r := (gK_rw h r hr).2.2.2
theorem gd_row0 {r : Nat} : (58 + 4 * r = 0) = False := by simp
theorem gd_row8 {r : Nat} : (8 ≤ 58 + 4 * r) = True := by simp; omega
end GKC
