/-! ===== how many bits, of 16 ===== -/
def gFa (k : Nat) : Nat := k - ((k >>> 1) &&& 1431655765)
def gFb (k : Nat) : Nat := (k &&& 858993459) + ((k >>> 2) &&& 858993459)
def gFc (k : Nat) : Nat := (k + (k >>> 4)) &&& 252645135
def gFd (k : Nat) : Nat := k + (k >>> 8)
def gFe (k : Nat) : Nat := (k + (k >>> 16)) &&& 63
theorem gFe_ok : ∀ h < 256, ∀ l < 256, gFe (gFd (gFc (gFb (gFa (256 * h + l))))) = bNum (fun i => (256 * h + l).testBit i) 16 := by decide +kernel
def iFa (x : Int32) : Int32 := x - (((x : Int32).toUInt32 >>> ((1 : Int32).toUInt32 &&& Int32.toUInt32 31)).toInt32 &&& 1431655765)
def iFb (x : Int32) : Int32 := (x &&& 858993459) + (((x : Int32).toUInt32 >>> ((2 : Int32).toUInt32 &&& Int32.toUInt32 31)).toInt32 &&& 858993459)
def iFc (x : Int32) : Int32 := (x + ((x : Int32).toUInt32 >>> ((4 : Int32).toUInt32 &&& Int32.toUInt32 31)).toInt32) &&& 252645135
def iFd (x : Int32) : Int32 := x + ((x : Int32).toUInt32 >>> ((8 : Int32).toUInt32 &&& Int32.toUInt32 31)).toInt32
def iFe (x : Int32) : Int32 := (x + ((x : Int32).toUInt32 >>> ((16 : Int32).toUInt32 &&& Int32.toUInt32 31)).toInt32) &&& 63
theorem c_bit0 (x : Int32) (m : gd_M) : gd_call 117 [.int x] m = some (.int (iFe (iFd (iFc (iFb (iFa x))))), m) := q_In_bitCount x m
theorem gp_and {a b : Nat} (ha : a < 4294967296) (hb : b < 4294967296) : Int32.ofNat a &&& Int32.ofNat b = Int32.ofNat (a &&& b) := gb_ext fun i hi => by
  have hab : a &&& b ≤ a := Nat.and_le_left
  rw [gb_and, gb_nat ha, gb_nat hb, gb_nat (by omega), Nat.testBit_and]
theorem gp_le {a j : Nat} : a >>> j ≤ a := by rw [Nat.shiftRight_eq_div_pow]; exact Nat.div_le_self _ _
theorem gp_shr {a j : Nat} {y : Int32} (ha : a < 2147483648) (hj : (((y.toUInt32 &&& Int32.toUInt32 31) % 32).toBitVec).toNat = j) : ((Int32.ofNat a).toUInt32 >>> (y.toUInt32 &&& Int32.toUInt32 31)).toInt32 = Int32.ofNat (a >>> j) := gb_ext fun i hi => by
  have h1 := gp_le (a := a) (j := j)
  rw [gb_nat (show a >>> j < 4294967296 by omega)]
  show ((Int32.ofNat a).toBitVec >>> (((y.toUInt32 &&& Int32.toUInt32 31) % 32).toBitVec).toNat).getLsbD i = _
  rw [hj, BitVec.getLsbD_ushiftRight, Nat.testBit_shiftRight]
  exact gb_nat (by omega)
theorem gp_a {k : Nat} (hk : k < 65536) : iFa (Int32.ofNat k) = Int32.ofNat (gFa k) := by
  have h1 := gp_le (a := k) (j := 1)
  have h2 : (k >>> 1) &&& 1431655765 ≤ k >>> 1 := Nat.and_le_left
  unfold iFa gFa
  rw [gp_shr (y := 1) (j := 1) (by omega) (by decide +kernel), show (1431655765 : Int32) = Int32.ofNat 1431655765 from rfl, gp_and (by omega) (by omega), gn_sub (by omega)]
theorem gp_b {k : Nat} (hk : k < 65536) : iFb (Int32.ofNat k) = Int32.ofNat (gFb k) := by
  have h1 := gp_le (a := k) (j := 2)
  unfold iFb gFb
  rw [gp_shr (y := 2) (j := 2) (by omega) (by decide +kernel), show (858993459 : Int32) = Int32.ofNat 858993459 from rfl, gp_and (by omega) (by omega), gp_and (by omega) (by omega), gn_add]
theorem gp_c {k : Nat} (hk : k < 200000) : iFc (Int32.ofNat k) = Int32.ofNat (gFc k) := by
  have h1 := gp_le (a := k) (j := 4)
  unfold iFc gFc
  rw [gp_shr (y := 4) (j := 4) (by omega) (by decide +kernel), show (252645135 : Int32) = Int32.ofNat 252645135 from rfl, gn_add, gp_and (by omega) (by omega)]
theorem gp_d {k : Nat} (hk : k < 400000) : iFd (Int32.ofNat k) = Int32.ofNat (gFd k) := by
  unfold iFd gFd
  rw [gp_shr (y := 8) (j := 8) (by omega) (by decide +kernel), gn_add]
theorem gp_e {k : Nat} (hk : k < 800000) : iFe (Int32.ofNat k) = Int32.ofNat (gFe k) := by
  have h1 := gp_le (a := k) (j := 16)
  unfold iFe gFe
  rw [gp_shr (y := 16) (j := 16) (by omega) (by decide +kernel), show (63 : Int32) = Int32.ofNat 63 from rfl, gn_add, gp_and (by omega) (by omega)]
theorem c_bitCount {k : Nat} (hk : k < 65536) (m : gd_M) : gd_call 117 [.int (Int32.ofNat k)] m = some (.int (Int32.ofNat (bNum (fun i => k.testBit i) 16)), m) := by
  have b1 : gFa k ≤ k := Nat.sub_le _ _
  have b2 : gFb (gFa k) ≤ gFa k + gFa k := Nat.add_le_add Nat.and_le_left (Nat.le_trans Nat.and_le_left gp_le)
  have b3 : gFc (gFb (gFa k)) ≤ gFb (gFa k) + gFb (gFa k) := Nat.le_trans Nat.and_le_left (Nat.add_le_add (Nat.le_refl _) gp_le)
  have b4 : gFd (gFc (gFb (gFa k))) ≤ gFc (gFb (gFa k)) + gFc (gFb (gFa k)) := Nat.add_le_add (Nat.le_refl _) gp_le
  rw [c_bit0, gp_a hk, gp_b (by omega), gp_c (by omega), gp_d (by omega), gp_e (by omega)]
  have h := gFe_ok (k / 256) (by omega) (k % 256) (by omega)
  rw [show 256 * (k / 256) + k % 256 = k from Nat.div_add_mod k 256] at h
  rw [h]
/-- how many bits -/
theorem c_bits {x : Int32} {f : Nat → Bool} (h : ∀ i, gb x i = (decide (i < 16) && f i)) (m : gd_M) : gd_call 117 [.int x] m = some (.int (Int32.ofNat (bNum f 16)), m) := by
  have h6 : (2 : Nat) ^ 16 = 65536 := by decide
  have hlt := bSet_lt (f := f) 16
  have e : x = Int32.ofNat (bSet f 16) := gb_ext fun i hi => by rw [h i, gb_nat (by omega), bSet_tb]
  rw [e, c_bitCount (by omega), bNum_c 16 fun i hi => by rw [bSet_tb, decide_eq_true hi]; rfl]
