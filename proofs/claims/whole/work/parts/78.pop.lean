/-! ===== how many bits, of 16 ===== -/
def gFa (k : Nat) : Nat := k - ((k / 2) &&& 1431655765)
def gFb (k : Nat) : Nat := (k &&& 858993459) + ((k / 4) &&& 858993459)
def gFc (k : Nat) : Nat := (k + k / 16) &&& 252645135
def gFd (k : Nat) : Nat := k + k / 256
def gFe (k : Nat) : Nat := (k + k / 65536) &&& 63
/-! a byte -/
def bA8 (l : Nat) : Nat := l - ((l / 2) &&& 85)
def bB8 (l : Nat) : Nat := (l &&& 51) + ((l / 4) &&& 51)
def bC8 (w : Nat) : Nat := (w + w / 16) &&& 15
theorem gq_1 : ∀ e < 2, ∀ l < 256, (128 * e + l / 2) &&& 85 = (l / 2) &&& 85 := by decide +kernel
theorem gq_1h : ∀ h < 256, (h / 2) &&& 5592405 = (h / 2) &&& 85 := by decide +kernel
theorem gq_2 : ∀ e < 4, ∀ l < 256, (64 * e + l / 4) &&& 51 = (l / 4) &&& 51 := by decide +kernel
theorem gq_2h : ∀ h < 256, (h / 4) &&& 3355443 = (h / 4) &&& 51 ∧ h &&& 3355443 = h &&& 51 := by decide +kernel
theorem gq_3 : ∀ e < 16, ∀ w < 256, (16 * e + w) &&& 15 = w &&& 15 := by decide +kernel
theorem gq_3h : ∀ w < 256, w &&& 986895 = w &&& 15 := by decide +kernel
theorem gq_b : ∀ l < 256, bC8 (bB8 (bA8 l)) = bNum (fun i => l.testBit i) 8 ∧ bB8 (bA8 l) ≤ 68 ∧ bA8 l < 256 ∧ (l / 2) &&& 85 ≤ l ∧ bC8 (bB8 (bA8 l)) < 9 ∧ bB8 (bA8 l) % 16 ≤ 4 := by decide +kernel
theorem gq_e : ∀ P < 9, ∀ Q < 9, (256 * P + (P + Q)) &&& 63 = P + Q := by decide +kernel
theorem gp_land {t x y M m : Nat} (hy : y < 2 ^ t) (hm : m < 2 ^ t) : (2 ^ t * x + y) &&& (2 ^ t * M + m) = 2 ^ t * (x &&& M) + (y &&& m) := Nat.eq_of_testBit_eq fun i => by
  have h0 : y &&& m ≤ y := Nat.and_le_left
  rw [Nat.testBit_and, Nat.testBit_two_pow_mul_add _ hy, Nat.testBit_two_pow_mul_add _ hm, Nat.testBit_two_pow_mul_add _ (Nat.lt_of_le_of_lt h0 hy)]
  by_cases h : i < t
  · rw [if_pos h, if_pos h, if_pos h, Nat.testBit_and]
  · rw [if_neg h, if_neg h, if_neg h, Nat.testBit_and]
theorem gp_l8 {x y M m : Nat} (hy : y < 256) (hm : m < 256) : (256 * x + y) &&& (256 * M + m) = 256 * (x &&& M) + (y &&& m) := gp_land (t := 8) hy hm
theorem gF_a {h l : Nat} (hh : h < 256) (hl : l < 256) : gFa (256 * h + l) = 256 * bA8 h + bA8 l := by
  have e1 : (256 * h + l) / 2 = 256 * (h / 2) + (128 * (h % 2) + l / 2) := by omega
  have q1 := (gq_b h hh).2.2.2.1
  have q2 := (gq_b l hl).2.2.2.1
  unfold gFa bA8
  rw [e1, show (1431655765 : Nat) = 256 * 5592405 + 85 from rfl, gp_l8 (by omega) (by decide), gq_1 (h % 2) (by omega) l hl, gq_1h h hh]
  generalize (h / 2) &&& 85 = X at *
  generalize (l / 2) &&& 85 = Y at *
  omega
theorem gF_b {u v : Nat} (hu : u < 256) (hv : v < 256) : gFb (256 * u + v) = 256 * bB8 u + bB8 v := by
  have e1 : (256 * u + v) / 4 = 256 * (u / 4) + (64 * (u % 4) + v / 4) := by omega
  unfold gFb bB8
  rw [e1, show (858993459 : Nat) = 256 * 3355443 + 51 from rfl, gp_l8 hv (by decide), gp_l8 (by omega) (by decide), gq_2 (u % 4) (by omega) v hv, (gq_2h u hu).1, (gq_2h u hu).2]
  omega
theorem gF_c {u v : Nat} (hu : u ≤ 68) (hv : v ≤ 68) (hu4 : u % 16 ≤ 4) : gFc (256 * u + v) = 256 * bC8 u + bC8 v := by
  have e1 : 256 * u + v + (256 * u + v) / 16 = 256 * (u + u / 16) + (16 * (u % 16) + (v + v / 16)) := by omega
  unfold gFc bC8
  rw [e1, show (252645135 : Nat) = 256 * 986895 + 15 from rfl, gp_l8 (by omega) (by decide), gq_3 (u % 16) (by omega) (v + v / 16) (by omega), gq_3h (u + u / 16) (by omega)]
theorem bNum_add {f : Nat → Bool} {a : Nat} : ∀ b, bNum f (a + b) = bNum f a + bNum (fun i => f (a + i)) b := by
  intro b
  induction b with
  | zero => rfl
  | succ b ih =>
    show bNum f (a + b) + _ = bNum f a + (bNum (fun i => f (a + i)) b + _)
    rw [ih, Nat.add_assoc]; rfl
theorem gFe_ok {h l : Nat} (hh : h < 256) (hl : l < 256) : gFe (gFd (gFc (gFb (gFa (256 * h + l))))) = bNum (fun i => (256 * h + l).testBit i) 16 := by
  obtain ⟨a1, a2, a3, -, a4, a5⟩ := gq_b h hh
  obtain ⟨b1, b2, b3, -, b4, -⟩ := gq_b l hl
  rw [gF_a hh hl, gF_b a3 b3, gF_c a2 b2 a5, show (16 : Nat) = 8 + 8 from rfl, bNum_add]
  have e1 : bNum (fun i => (256 * h + l).testBit i) 8 = bNum (fun i => l.testBit i) 8 := bNum_c 8 fun i hi => by
    have := Nat.testBit_two_pow_mul_add h (i := 8) hl i
    rw [if_pos hi] at this; exact this
  have e2 : bNum (fun i => (256 * h + l).testBit (8 + i)) 8 = bNum (fun i => h.testBit i) 8 := bNum_c 8 fun i hi => by
    have := Nat.testBit_two_pow_mul_add h (i := 8) hl (8 + i)
    rw [if_neg (by omega), show 8 + i - 8 = i by omega] at this; exact this
  rw [e1, e2, ← a1, ← b1]
  generalize bC8 (bB8 (bA8 h)) = X at *
  generalize bC8 (bB8 (bA8 l)) = Y at *
  unfold gFe gFd
  rw [show 256 * X + Y + (256 * X + Y) / 256 + (256 * X + Y + (256 * X + Y) / 256) / 65536 = 256 * X + (X + Y) by omega, gq_e X a4 Y b4, Nat.add_comm]
def iFa (x : Int32) : Int32 := x - (((x : Int32).toUInt32 >>> ((1 : Int32).toUInt32 &&& Int32.toUInt32 31)).toInt32 &&& 1431655765)
def iFb (x : Int32) : Int32 := (x &&& 858993459) + (((x : Int32).toUInt32 >>> ((2 : Int32).toUInt32 &&& Int32.toUInt32 31)).toInt32 &&& 858993459)
def iFc (x : Int32) : Int32 := (x + ((x : Int32).toUInt32 >>> ((4 : Int32).toUInt32 &&& Int32.toUInt32 31)).toInt32) &&& 252645135
def iFd (x : Int32) : Int32 := x + ((x : Int32).toUInt32 >>> ((8 : Int32).toUInt32 &&& Int32.toUInt32 31)).toInt32
def iFe (x : Int32) : Int32 := (x + ((x : Int32).toUInt32 >>> ((16 : Int32).toUInt32 &&& Int32.toUInt32 31)).toInt32) &&& 63
theorem c_bit0 (x : Int32) (m : gd_M) : gd_call 117 [.int x] m = some (.int (iFe (iFd (iFc (iFb (iFa x))))), m) := q_In_bitCount x m
theorem gp_and {a b : Nat} (ha : a < 4294967296) (hb : b < 4294967296) : Int32.ofNat a &&& Int32.ofNat b = Int32.ofNat (a &&& b) := gb_ext fun i hi => by
  have hab : a &&& b ≤ a := Nat.and_le_left
  rw [gb_and, gb_nat ha, gb_nat hb, gb_nat (by omega), Nat.testBit_and]
theorem gp_shr {a j D : Nat} {y : Int32} (hD : 2 ^ j = D) (ha : a < 2147483648) (hj : (((y.toUInt32 &&& Int32.toUInt32 31) % 32).toBitVec).toNat = j) : ((Int32.ofNat a).toUInt32 >>> (y.toUInt32 &&& Int32.toUInt32 31)).toInt32 = Int32.ofNat (a / D) := gb_ext fun i hi => by
  have h1 : a / D ≤ a := Nat.div_le_self _ _
  rw [gb_nat (show a / D < 4294967296 by omega)]
  show ((Int32.ofNat a).toBitVec >>> (((y.toUInt32 &&& Int32.toUInt32 31) % 32).toBitVec).toNat).getLsbD i = _
  rw [hj, BitVec.getLsbD_ushiftRight, ← hD, ← Nat.shiftRight_eq_div_pow, Nat.testBit_shiftRight]
  exact gb_nat (by omega)
theorem gp_a {k : Nat} (hk : k < 65536) : iFa (Int32.ofNat k) = Int32.ofNat (gFa k) := by
  have h1 : k / 2 ≤ k := Nat.div_le_self _ _
  have h2 : (k / 2) &&& 1431655765 ≤ k / 2 := Nat.and_le_left
  unfold iFa gFa
  rw [gp_shr (y := 1) (j := 1) (D := 2) rfl (by omega) (by decide +kernel), show (1431655765 : Int32) = Int32.ofNat 1431655765 from rfl, gp_and (by omega) (by omega), gn_sub (Nat.le_trans h2 h1)]
theorem gp_b {k : Nat} (hk : k < 65536) : iFb (Int32.ofNat k) = Int32.ofNat (gFb k) := by
  unfold iFb gFb
  rw [gp_shr (y := 2) (j := 2) (D := 4) rfl (by omega) (by decide +kernel), show (858993459 : Int32) = Int32.ofNat 858993459 from rfl, gp_and (by omega) (by omega), gp_and (by omega) (by omega), gn_add]
theorem gp_c {k : Nat} (hk : k < 200000) : iFc (Int32.ofNat k) = Int32.ofNat (gFc k) := by
  unfold iFc gFc
  rw [gp_shr (y := 4) (j := 4) (D := 16) rfl (by omega) (by decide +kernel), show (252645135 : Int32) = Int32.ofNat 252645135 from rfl, gn_add, gp_and (by omega) (by omega)]
theorem gp_d {k : Nat} (hk : k < 400000) : iFd (Int32.ofNat k) = Int32.ofNat (gFd k) := by
  unfold iFd gFd
  rw [gp_shr (y := 8) (j := 8) (D := 256) rfl (by omega) (by decide +kernel), gn_add]
theorem gp_e {k : Nat} (hk : k < 800000) : iFe (Int32.ofNat k) = Int32.ofNat (gFe k) := by
  unfold iFe gFe
  rw [gp_shr (y := 16) (j := 16) (D := 65536) rfl (by omega) (by decide +kernel), show (63 : Int32) = Int32.ofNat 63 from rfl, gn_add, gp_and (by omega) (by omega)]
theorem c_bitCount {k : Nat} (hk : k < 65536) (m : gd_M) : gd_call 117 [.int (Int32.ofNat k)] m = some (.int (Int32.ofNat (bNum (fun i => k.testBit i) 16)), m) := by
  have b1 : gFa k ≤ k := Nat.sub_le _ _
  have b2 : gFb (gFa k) ≤ gFa k + gFa k := Nat.add_le_add Nat.and_le_left (Nat.le_trans Nat.and_le_left (Nat.div_le_self _ _))
  have b3 : gFc (gFb (gFa k)) ≤ gFb (gFa k) + gFb (gFa k) := Nat.le_trans Nat.and_le_left (Nat.add_le_add (Nat.le_refl _) (Nat.div_le_self _ _))
  have b4 : gFd (gFc (gFb (gFa k))) ≤ gFc (gFb (gFa k)) + gFc (gFb (gFa k)) := Nat.add_le_add (Nat.le_refl _) (Nat.div_le_self _ _)
  rw [c_bit0, gp_a hk, gp_b (by omega), gp_c (by omega), gp_d (by omega), gp_e (by omega)]
  have h := gFe_ok (h := k / 256) (l := k % 256) (by omega) (by omega)
  rw [show 256 * (k / 256) + k % 256 = k from Nat.div_add_mod k 256] at h
  rw [h]
/-- how many bits -/
theorem c_bits {x : Int32} {f : Nat → Bool} (h : ∀ i, gb x i = (decide (i < 16) && f i)) (m : gd_M) : gd_call 117 [.int x] m = some (.int (Int32.ofNat (bNum f 16)), m) := by
  have h6 : (2 : Nat) ^ 16 = 65536 := by decide
  have hlt := bSet_lt (f := f) 16
  have e : x = Int32.ofNat (bSet f 16) := gb_ext fun i hi => by rw [h i, gb_nat (by omega), bSet_tb]
  rw [e, c_bitCount (by omega), bNum_c (f' := f) 16 fun i hi => by rw [bSet_tb, decide_eq_true hi, Bool.true_and]]
