/-! ===== how many bits, of 16 ===== -/
def gPp (k : Nat) : Nat → Nat
  | 0 => 0
  | j + 1 => gPp k j + if (k.testBit j) = true then 1 else 0
def gFa (k : Nat) : Nat := k - ((k >>> 1) &&& 1431655765)
def gFb (k : Nat) : Nat := (gFa k &&& 858993459) + ((gFa k >>> 2) &&& 858993459)
def gFc (k : Nat) : Nat := (gFb k + (gFb k >>> 4)) &&& 252645135
def gFd (k : Nat) : Nat := gFc k + (gFc k >>> 8)
def gFe (k : Nat) : Nat := (gFd k + (gFd k >>> 16)) &&& 63
/-- the bits, pair by pair, without a recursion -/
def gPq (k : Nat) : Nat := k % 2 + k / 2 % 2 + k / 4 % 2 + k / 8 % 2 + k / 16 % 2 + k / 32 % 2 + k / 64 % 2 + k / 128 % 2
theorem gFe_ok : ∀ h < 256, ∀ l < 256, gFe (256 * h + l) = gPq h + gPq l := by decide +kernel
