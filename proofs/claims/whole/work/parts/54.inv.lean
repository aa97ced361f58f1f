/-! ===== the abstract state: contents s by the reference's ids; what holds of it ===== -/
abbrev gd_C : Type := Nat → Nat → Int32
def gn (x : Int32) : Nat := x.toNatClampNeg
def gB (b : Bool) : Int32 := bif b then 1 else 0
def gb (x : Int32) (i : Nat) : Bool := x.toBitVec.getLsbD i
/-- a byte -/
def isB (x : Int32) : Prop := ∃ w : Int8, x = w.toInt32
/-- a small whole number between bounds -/
def isN (x : Int32) (lo hi : Nat) : Prop := ∃ k : Nat, lo ≤ k ∧ k ≤ hi ∧ x = Int32.ofNat k
theorem gn_of {k : Nat} (h : k < 2147483648) : gn (Int32.ofNat k) = k := gn_nat h
theorem isN_gn {x : Int32} {lo hi : Nat} (h : isN x lo hi) (hh : hi < 2147483648) : lo ≤ gn x ∧ gn x ≤ hi ∧ x = Int32.ofNat (gn x) := by
  obtain ⟨k, a, b, rfl⟩ := h
  rw [gn_of (by omega)]; exact ⟨a, b, rfl⟩
theorem isN_i {k lo hi : Nat} (a : lo ≤ k) (b : k ≤ hi) : isN (Int32.ofNat k) lo hi := ⟨k, a, b, rfl⟩
/-! what a code is worth: the data of a code (A k j: slot j of the code's k-th object), of a row (its length, its entries) -/
def gCd (n : Nat) (s : gd_C) : gd_C := fun k j => if k < 16 then s (n + k) j else 0
def gEn (s : gd_C) (r : Nat) : Nat → Int32 := fun i => if i < 16 then s 740 (16 * r + i) else 0
def gMk (s : gd_C) (r : Nat) : Nat → Int32 := fun j => if j < 6 then s 741 (6 * r + j) else 0
def gSn (s : gd_C) (r : Nat) : Nat → Nat → Int32 := fun f i => if f < 10 ∧ i < 16 then s 744 (160 * r + 16 * f + i) else 0
/-- how many of the first entries stand ahead of the first torn one -/
def bC (e : Nat → Int32) : Nat → Nat
  | 0 => 0
  | k + 1 => if bC e k = k ∧ e k ≠ -1 then k + 1 else bC e k
/-- an entry ahead of which one of its kind stands -/
def bRep (A : gd_C) (e : Nat → Int32) (i : Nat) : Bool := (List.range i).any fun j => decide (A 7 (gn (e j)) = A 7 (gn (e i)))
def bWo (A : gd_C) (e : Nat → Int32) (i : Nat) : Int := (A 5 (gn (e i))).toInt
def bGr (A : gd_C) (e : Nat → Int32) (i : Nat) : Nat := gn (A 6 (gn (e i)))
def bLk (A : gd_C) (a b : Int32) : Nat → Int
  | 0 => 0
  | l + 1 => bLk A a b l + if A 8 l = a ∧ A 9 l = b then (A 10 l).toInt else 0
def bLi (A : gd_C) (e : Nat → Int32) (i : Nat) : Int := bLk A (e (i - 1)) (e i) (gn (A 0 1))
/-- a choice's parts and links, of the first k entries -/
def bVal (wo li : Nat → Int) (f : Nat → Bool) : Nat → Int
  | 0 => 0
  | k + 1 => bVal wo li f k + if f k = true then wo k + (if 0 < k ∧ f (k - 1) = true then li k else 0) else 0
def bCnt (gr : Nat → Nat) (f : Nat → Bool) (g : Nat) : Nat → Nat
  | 0 => 0
  | k + 1 => bCnt gr f g k + if f k = true ∧ gr k = g then 1 else 0
def bNum (f : Nat → Bool) : Nat → Nat
  | 0 => 0
  | k + 1 => bNum f k + if f k = true then 1 else 0
def bSet (f : Nat → Bool) : Nat → Nat
  | 0 => 0
  | k + 1 => bSet f k + if f k = true then 2 ^ k else 0
def bNd (A : gd_C) (cnt : Nat → Nat) : Nat → Int
  | 0 => 0
  | g + 1 => bNd A cnt g + if 0 < gn (A 13 g) ∧ gn (A 13 g) ≤ cnt g then (A 14 g).toInt else 0
def bExt (A : gd_C) (cnt : Nat → Nat) (num : Nat) : Int := bNd A cnt 5 - if num < gn (A 0 19) then (A 0 20).toInt else 0
def bLaw (A : gd_C) (e : Nat → Int32) (C : Nat) (f : Nat → Bool) : Prop := (∀ i, f i = true → i < C ∧ bRep A e i = false) ∧ bNum f C ≤ gn (A 0 18) ∧ ∀ g < 5, A 15 g = -1 ∨ bCnt (bGr A e) f g C ≤ gn (A 15 g)
def bTot (A : gd_C) (e : Nat → Int32) (C : Nat) (f : Nat → Bool) : Int := bVal (bWo A e) (bLi A e) f C + bExt A (fun g => bCnt (bGr A e) f g C) (bNum f C)
/-- w is the greatest worth of a lawful choice, z the least set of that worth -/
def bIs (A : gd_C) (len : Int32) (e : Nat → Int32) (w z : Int32) : Prop := ∃ f, bLaw A e (bC e (gn len)) f ∧ w.toInt = bTot A e (bC e (gn len)) f ∧ z.toInt = (bSet f (bC e (gn len)) : Int) ∧ ∀ f', bLaw A e (bC e (gn len)) f' → 65536 * bTot A e (bC e (gn len)) f' - (bSet f' (bC e (gn len)) : Int) ≤ 65536 * bTot A e (bC e (gn len)) f - (bSet f (bC e (gn len)) : Int)
noncomputable def gBe (A : gd_C) (len : Int32) (e : Nat → Int32) : Int32 × Int32 := Classical.epsilon fun q : Int32 × Int32 => bIs A len e q.1 q.2
noncomputable def gBw (A : gd_C) (len : Int32) (e : Nat → Int32) : Int32 := (gBe A len e).1
noncomputable def gBs (A : gd_C) (len : Int32) (e : Nat → Int32) : Int32 := (gBe A len e).2
def gM0 (x : Int32) : Int32 := if x < 0 then 0 else x
/-- marks' sum, highest, lowest, of the first k judges -/
def gSum (mk : Nat → Int32) : Nat → Int32
  | 0 => 0
  | k + 1 => gSum mk k + mk k
def gHi (mk : Nat → Int32) : Nat → Int32
  | 0 => 0
  | k + 1 => if gHi mk k < mk k then mk k else gHi mk k
def gLo (mk : Nat → Int32) : Nat → Int32
  | 0 => 100
  | k + 1 => if mk k < gLo mk k then mk k else gLo mk k
def gJd (A : gd_C) (mk : Nat → Int32) : Int32 := if A 0 21 < 4 then 100 * gSum mk (gn (A 0 21)) / A 0 21 else 100 * (gSum mk (gn (A 0 21)) - gHi mk (gn (A 0 21)) - gLo mk (gn (A 0 21))) / (A 0 21 - 2)
/-- how often a fault was seen, up to the k-th entry; what is taken off for the first k faults -/
def gTm (sn : Nat → Nat → Int32) (f : Nat) : Nat → Nat
  | 0 => 0
  | i + 1 => gTm sn f i + if sn f i = 0 then 0 else 1
def gOf (A : gd_C) (sn : Nat → Nat → Int32) : Nat → Int32
  | 0 => 0
  | f + 1 => gOf A sn f + if gTm sn f 16 = 0 then 0 else if A 12 f = 0 then A 11 f else Int32.ofNat (gTm sn f 16) * A 11 f
def gOff (A : gd_C) (sn : Nat → Nat → Int32) : Int32 := gOf A sn (gn (A 0 2))
noncomputable def gSc (A : gd_C) (len : Int32) (e mk : Nat → Int32) (sn : Nat → Nat → Int32) : Int32 := gM0 (100 * gM0 (gBw A len e) + 10000 - gJd A mk - 100 * gOff A sn)
/-- a land's routines at an apparatus, of the first k gymnasts -/
def gCt (s : gd_C) (l : Int32) (a : Nat) : Nat → Nat
  | 0 => 0
  | k + 1 => gCt s l a k + if s 735 k = l ∧ s 738 (4 * k + a) ≠ 0 then 1 else 0
/-- a routine that is posted -/
def gPo (s : gd_C) (r : Nat) : Bool := !decide (s 738 r = 0) && !decide (s 745 r = -1)
def gPc (s : gd_C) : Nat → Nat
  | 0 => 0
  | k + 1 => gPc s k + if gPo s k = true then 1 else 0
/-- ranges of a code -/
def iCd (A : gd_C) : Prop :=
  (isN (A 0 0) 0 30) ∧
  (isN (A 0 1) 0 20) ∧
  (isN (A 0 2) 0 10) ∧
  (∀ i < gn (A 0 0), isN (A 5 i) 1 30) ∧
  (∀ i < gn (A 0 0), isN (A 6 i) 0 4) ∧
  (∀ i < gn (A 0 0), ∃ k < gn (A 0 0), A 7 i = Int32.ofNat k) ∧
  (∀ l < gn (A 0 1), isN (A 10 l) 1 9) ∧
  (∀ l < gn (A 0 1), ∀ l2 < gn (A 0 1), A 8 l = A 8 l2 → A 9 l = A 9 l2 → l = l2) ∧
  (∀ f < gn (A 0 2), isN (A 11 f) 1 50) ∧
  (∀ g < 5, isN (A 13 g) 0 10) ∧
  (∀ g < 5, isN (A 14 g) 0 20) ∧
  (∀ g < 5, A 15 g = -1 ∨ isN (A 15 g) 0 10) ∧
  (isN (A 0 18) 1 10) ∧
  (isN (A 0 19) 0 10) ∧
  (isN (A 0 20) 0 99) ∧
  (isN (A 0 21) 1 6) ∧
  (isN (A 0 22) 0 50) ∧
  (isN (A 0 23) 1 6) ∧
  (isN (A 0 24) 1 6) ∧
  (isN (A 0 25) 1 10) ∧
  (isN (A 0 26) 1 10)
theorem iCd_pts {A : gd_C} (h : iCd A) : isN (A 0 0) 0 30 := h.1
theorem iCd_lks {A : gd_C} (h : iCd A) : isN (A 0 1) 0 20 := h.2.1
theorem iCd_fts {A : gd_C} (h : iCd A) : isN (A 0 2) 0 10 := h.2.2.1
theorem iCd_wor {A : gd_C} (h : iCd A) : ∀ i < gn (A 0 0), isN (A 5 i) 1 30 := h.2.2.2.1
theorem iCd_grp {A : gd_C} (h : iCd A) : ∀ i < gn (A 0 0), isN (A 6 i) 0 4 := h.2.2.2.2.1
theorem iCd_knd {A : gd_C} (h : iCd A) : ∀ i < gn (A 0 0), ∃ k < gn (A 0 0), A 7 i = Int32.ofNat k := h.2.2.2.2.2.1
theorem iCd_lwo {A : gd_C} (h : iCd A) : ∀ l < gn (A 0 1), isN (A 10 l) 1 9 := h.2.2.2.2.2.2.1
theorem iCd_lon {A : gd_C} (h : iCd A) : ∀ l < gn (A 0 1), ∀ l2 < gn (A 0 1), A 8 l = A 8 l2 → A 9 l = A 9 l2 → l = l2 := h.2.2.2.2.2.2.2.1
theorem iCd_fof {A : gd_C} (h : iCd A) : ∀ f < gn (A 0 2), isN (A 11 f) 1 50 := h.2.2.2.2.2.2.2.2.1
theorem iCd_nds {A : gd_C} (h : iCd A) : ∀ g < 5, isN (A 13 g) 0 10 := h.2.2.2.2.2.2.2.2.2.1
theorem iCd_wth {A : gd_C} (h : iCd A) : ∀ g < 5, isN (A 14 g) 0 20 := h.2.2.2.2.2.2.2.2.2.2.1
theorem iCd_lim {A : gd_C} (h : iCd A) : ∀ g < 5, A 15 g = -1 ∨ isN (A 15 g) 0 10 := h.2.2.2.2.2.2.2.2.2.2.2.1
theorem iCd_cnt {A : gd_C} (h : iCd A) : isN (A 0 18) 1 10 := h.2.2.2.2.2.2.2.2.2.2.2.2.1
theorem iCd_sho {A : gd_C} (h : iCd A) : isN (A 0 19) 0 10 := h.2.2.2.2.2.2.2.2.2.2.2.2.2.1
theorem iCd_les {A : gd_C} (h : iCd A) : isN (A 0 20) 0 99 := h.2.2.2.2.2.2.2.2.2.2.2.2.2.2.1
theorem iCd_pan {A : gd_C} (h : iCd A) : isN (A 0 21) 1 6 := h.2.2.2.2.2.2.2.2.2.2.2.2.2.2.2.1
theorem iCd_spa {A : gd_C} (h : iCd A) : isN (A 0 22) 0 50 := h.2.2.2.2.2.2.2.2.2.2.2.2.2.2.2.2.1
theorem iCd_tea {A : gd_C} (h : iCd A) : isN (A 0 23) 1 6 := h.2.2.2.2.2.2.2.2.2.2.2.2.2.2.2.2.2.1
theorem iCd_bst {A : gd_C} (h : iCd A) : isN (A 0 24) 1 6 := h.2.2.2.2.2.2.2.2.2.2.2.2.2.2.2.2.2.2.1
theorem iCd_fin {A : gd_C} (h : iCd A) : isN (A 0 25) 1 10 := h.2.2.2.2.2.2.2.2.2.2.2.2.2.2.2.2.2.2.2.1
theorem iCd_lnd {A : gd_C} (h : iCd A) : isN (A 0 26) 1 10 := h.2.2.2.2.2.2.2.2.2.2.2.2.2.2.2.2.2.2.2.2
/-- ranges of a row -/
def iRow (A : gd_C) (s : gd_C) (r : Nat) : Prop :=
  (s 738 r = 0 ∨ s 738 r = 1) ∧
  (isN (s 739 r) 0 16) ∧
  (s 738 r ≠ 0 → ∀ i < gn (s 739 r), s 740 (16 * r + i) = -1 ∨ ∃ k < gn (A 0 0), s 740 (16 * r + i) = Int32.ofNat k) ∧
  (s 738 r ≠ 0 → ∀ j < 6, s 741 (6 * r + j) = -1 ∨ isN (s 741 (6 * r + j)) 0 100) ∧
  (s 738 r ≠ 0 → s 745 r = -1 ∨ (0 ≤ s 745 r ∧ s 745 r ≤ s 698 19)) ∧
  (s 738 r ≠ 0 → s 746 r = 0 ∨ s 745 r ≠ -1)
theorem iRow_bgn {A : gd_C} {s : gd_C} {r : Nat} (h : iRow A s r) : s 738 r = 0 ∨ s 738 r = 1 := h.1
theorem iRow_len {A : gd_C} {s : gd_C} {r : Nat} (h : iRow A s r) : isN (s 739 r) 0 16 := h.2.1
theorem iRow_ent {A : gd_C} {s : gd_C} {r : Nat} (h : iRow A s r) : s 738 r ≠ 0 → ∀ i < gn (s 739 r), s 740 (16 * r + i) = -1 ∨ ∃ k < gn (A 0 0), s 740 (16 * r + i) = Int32.ofNat k := h.2.2.1
theorem iRow_mrk {A : gd_C} {s : gd_C} {r : Nat} (h : iRow A s r) : s 738 r ≠ 0 → ∀ j < 6, s 741 (6 * r + j) = -1 ∨ isN (s 741 (6 * r + j)) 0 100 := h.2.2.2.1
theorem iRow_pst {A : gd_C} {s : gd_C} {r : Nat} (h : iRow A s r) : s 738 r ≠ 0 → s 745 r = -1 ∨ (0 ≤ s 745 r ∧ s 745 r ≤ s 698 19) := h.2.2.2.2.1
theorem iRow_inq {A : gd_C} {s : gd_C} {r : Nat} (h : iRow A s r) : s 738 r ≠ 0 → s 746 r = 0 ∨ s 745 r ≠ -1 := h.2.2.2.2.2
/-- what holds of the abstract state -/
def iAll (n : Nat) (s : gd_C) : Prop :=
  (iCd (gCd n s)) ∧
  (isN (s 698 4) 0 3000) ∧
  (isN (s 698 18) 0 40) ∧
  (0 ≤ s 698 19) ∧
  (∀ g, isN (s 735 g) 0 9) ∧
  (∀ r < 160, 4 * gn (s 698 18) ≤ r → s 738 r = 0) ∧
  (∀ r < 160, iRow (gCd n s) s r) ∧
  (∀ l, ∀ a < 4, gCt s l a (gn (s 698 18)) ≤ gn (gCd n s 0 23)) ∧
  (∀ i, isB (s 732 i))
theorem iAll_cod {n : Nat} {s : gd_C} (h : iAll n s) : iCd (gCd n s) := h.1
theorem iAll_tpd {n : Nat} {s : gd_C} (h : iAll n s) : isN (s 698 4) 0 3000 := h.2.1
theorem iAll_ppl {n : Nat} {s : gd_C} (h : iAll n s) : isN (s 698 18) 0 40 := h.2.2.1
theorem iAll_lat {n : Nat} {s : gd_C} (h : iAll n s) : 0 ≤ s 698 19 := h.2.2.2.1
theorem iAll_lan {n : Nat} {s : gd_C} (h : iAll n s) : ∀ g, isN (s 735 g) 0 9 := h.2.2.2.2.1
theorem iAll_out {n : Nat} {s : gd_C} (h : iAll n s) : ∀ r < 160, 4 * gn (s 698 18) ≤ r → s 738 r = 0 := h.2.2.2.2.2.1
theorem iAll_row {n : Nat} {s : gd_C} (h : iAll n s) : ∀ r < 160, iRow (gCd n s) s r := h.2.2.2.2.2.2.1
theorem iAll_tea {n : Nat} {s : gd_C} (h : iAll n s) : ∀ l, ∀ a < 4, gCt s l a (gn (s 698 18)) ≤ gn (gCd n s 0 23) := h.2.2.2.2.2.2.2.1
theorem iAll_byt {n : Nat} {s : gd_C} (h : iAll n s) : ∀ i, isB (s 732 i) := h.2.2.2.2.2.2.2.2
/-- the class shows the meeting -/
def cMt (J s : gd_C) : Prop :=
  (J 8 11 = s 698 4) ∧
  (∀ i, J 9 i = s 732 i) ∧
  (J 10 6 = s 698 14) ∧
  (J 10 7 = s 698 15) ∧
  (J 8 12 = s 698 18) ∧
  (J 8 13 = s 698 19) ∧
  (∀ g, J 28 g = s 735 g) ∧
  (∀ g < 40, ∀ a < 5, gb (J 29 g) a = !decide (s 737 (5 * g + a) = 0)) ∧
  (∀ l, J 30 l = s 736 l) ∧
  (J 8 14 = Int32.ofNat (gPc s (4 * gn (s 698 18))))
theorem cMt_tpd {J s : gd_C} (h : cMt J s) : J 8 11 = s 698 4 := h.1
theorem cMt_tap {J s : gd_C} (h : cMt J s) : ∀ i, J 9 i = s 732 i := h.2.1
theorem cMt_fkd {J s : gd_C} (h : cMt J s) : J 10 6 = s 698 14 := h.2.2.1
theorem cMt_fpl {J s : gd_C} (h : cMt J s) : J 10 7 = s 698 15 := h.2.2.2.1
theorem cMt_ppl {J s : gd_C} (h : cMt J s) : J 8 12 = s 698 18 := h.2.2.2.2.1
theorem cMt_lat {J s : gd_C} (h : cMt J s) : J 8 13 = s 698 19 := h.2.2.2.2.2.1
theorem cMt_lan {J s : gd_C} (h : cMt J s) : ∀ g, J 28 g = s 735 g := h.2.2.2.2.2.2.1
theorem cMt_gon {J s : gd_C} (h : cMt J s) : ∀ g < 40, ∀ a < 5, gb (J 29 g) a = !decide (s 737 (5 * g + a) = 0) := h.2.2.2.2.2.2.2.1
theorem cMt_pai {J s : gd_C} (h : cMt J s) : ∀ l, J 30 l = s 736 l := h.2.2.2.2.2.2.2.2.1
theorem cMt_pos {J s : gd_C} (h : cMt J s) : J 8 14 = Int32.ofNat (gPc s (4 * gn (s 698 18))) := h.2.2.2.2.2.2.2.2.2
/-- the class shows the code -/
def cCd (c : Nat) (J A : gd_C) : Prop :=
  (J c 12 = A 0 0) ∧
  (J c 13 = A 0 1) ∧
  (J c 14 = A 0 2) ∧
  (∀ i < gn (A 0 0), J (c + 1) i = A 5 i) ∧
  (∀ i < gn (A 0 0), J (c + 2) i = A 6 i) ∧
  (∀ i < gn (A 0 0), J (c + 3) i = A 7 i) ∧
  (∀ i < gn (A 0 1), J (c + 4) i = A 8 i) ∧
  (∀ i < gn (A 0 1), J (c + 5) i = A 9 i) ∧
  (∀ i < gn (A 0 1), J (c + 6) i = A 10 i) ∧
  (∀ i < gn (A 0 2), J (c + 7) i = A 11 i) ∧
  (∀ i < gn (A 0 2), J (c + 8) i = A 12 i) ∧
  (∀ g < 5, J (c + 9) g = A 13 g) ∧
  (∀ g < 5, J (c + 10) g = A 14 g) ∧
  (∀ g < 5, J (c + 11) g = A 15 g) ∧
  (J (c + 12) 3 = A 0 21) ∧
  (J (c + 12) 4 = A 0 22) ∧
  (J (c + 12) 5 = A 0 18) ∧
  (J (c + 12) 6 = A 0 19) ∧
  (J (c + 12) 7 = A 0 20) ∧
  (J (c + 12) 8 = A 0 23) ∧
  (J (c + 12) 9 = A 0 24) ∧
  (J (c + 12) 10 = A 0 25) ∧
  (J (c + 12) 11 = A 0 26)
theorem cCd_pts {c : Nat} {J A : gd_C} (h : cCd c J A) : J c 12 = A 0 0 := h.1
theorem cCd_lks {c : Nat} {J A : gd_C} (h : cCd c J A) : J c 13 = A 0 1 := h.2.1
theorem cCd_fts {c : Nat} {J A : gd_C} (h : cCd c J A) : J c 14 = A 0 2 := h.2.2.1
theorem cCd_wor {c : Nat} {J A : gd_C} (h : cCd c J A) : ∀ i < gn (A 0 0), J (c + 1) i = A 5 i := h.2.2.2.1
theorem cCd_grp {c : Nat} {J A : gd_C} (h : cCd c J A) : ∀ i < gn (A 0 0), J (c + 2) i = A 6 i := h.2.2.2.2.1
theorem cCd_knd {c : Nat} {J A : gd_C} (h : cCd c J A) : ∀ i < gn (A 0 0), J (c + 3) i = A 7 i := h.2.2.2.2.2.1
theorem cCd_lfi {c : Nat} {J A : gd_C} (h : cCd c J A) : ∀ i < gn (A 0 1), J (c + 4) i = A 8 i := h.2.2.2.2.2.2.1
theorem cCd_lse {c : Nat} {J A : gd_C} (h : cCd c J A) : ∀ i < gn (A 0 1), J (c + 5) i = A 9 i := h.2.2.2.2.2.2.2.1
theorem cCd_lwo {c : Nat} {J A : gd_C} (h : cCd c J A) : ∀ i < gn (A 0 1), J (c + 6) i = A 10 i := h.2.2.2.2.2.2.2.2.1
theorem cCd_fof {c : Nat} {J A : gd_C} (h : cCd c J A) : ∀ i < gn (A 0 2), J (c + 7) i = A 11 i := h.2.2.2.2.2.2.2.2.2.1
theorem cCd_fea {c : Nat} {J A : gd_C} (h : cCd c J A) : ∀ i < gn (A 0 2), J (c + 8) i = A 12 i := h.2.2.2.2.2.2.2.2.2.2.1
theorem cCd_nds {c : Nat} {J A : gd_C} (h : cCd c J A) : ∀ g < 5, J (c + 9) g = A 13 g := h.2.2.2.2.2.2.2.2.2.2.2.1
theorem cCd_wth {c : Nat} {J A : gd_C} (h : cCd c J A) : ∀ g < 5, J (c + 10) g = A 14 g := h.2.2.2.2.2.2.2.2.2.2.2.2.1
theorem cCd_lim {c : Nat} {J A : gd_C} (h : cCd c J A) : ∀ g < 5, J (c + 11) g = A 15 g := h.2.2.2.2.2.2.2.2.2.2.2.2.2.1
theorem cCd_pan {c : Nat} {J A : gd_C} (h : cCd c J A) : J (c + 12) 3 = A 0 21 := h.2.2.2.2.2.2.2.2.2.2.2.2.2.2.1
theorem cCd_spa {c : Nat} {J A : gd_C} (h : cCd c J A) : J (c + 12) 4 = A 0 22 := h.2.2.2.2.2.2.2.2.2.2.2.2.2.2.2.1
theorem cCd_cnt {c : Nat} {J A : gd_C} (h : cCd c J A) : J (c + 12) 5 = A 0 18 := h.2.2.2.2.2.2.2.2.2.2.2.2.2.2.2.2.1
theorem cCd_sho {c : Nat} {J A : gd_C} (h : cCd c J A) : J (c + 12) 6 = A 0 19 := h.2.2.2.2.2.2.2.2.2.2.2.2.2.2.2.2.2.1
theorem cCd_les {c : Nat} {J A : gd_C} (h : cCd c J A) : J (c + 12) 7 = A 0 20 := h.2.2.2.2.2.2.2.2.2.2.2.2.2.2.2.2.2.2.1
theorem cCd_tea {c : Nat} {J A : gd_C} (h : cCd c J A) : J (c + 12) 8 = A 0 23 := h.2.2.2.2.2.2.2.2.2.2.2.2.2.2.2.2.2.2.2.1
theorem cCd_bst {c : Nat} {J A : gd_C} (h : cCd c J A) : J (c + 12) 9 = A 0 24 := h.2.2.2.2.2.2.2.2.2.2.2.2.2.2.2.2.2.2.2.2.1
theorem cCd_fin {c : Nat} {J A : gd_C} (h : cCd c J A) : J (c + 12) 10 = A 0 25 := h.2.2.2.2.2.2.2.2.2.2.2.2.2.2.2.2.2.2.2.2.2.1
theorem cCd_lnd {c : Nat} {J A : gd_C} (h : cCd c J A) : J (c + 12) 11 = A 0 26 := h.2.2.2.2.2.2.2.2.2.2.2.2.2.2.2.2.2.2.2.2.2.2
/-- the class shows a row -/
def cRw (A J s : gd_C) (r : Nat) : Prop :=
  (J (58 + 4 * r) 3 = s 738 r) ∧
  (J (58 + 4 * r) 6 = s 739 r) ∧
  (∀ i < 16, J (59 + 4 * r) i = s 740 (16 * r + i)) ∧
  (∀ j < 6, J (60 + 4 * r) j = s 741 (6 * r + j)) ∧
  (J (58 + 4 * r) 7 = s 742 r) ∧
  (J (58 + 4 * r) 8 = s 743 r) ∧
  (J (58 + 4 * r) 14 = s 746 r) ∧
  (∀ f < 10, ∀ i, gb (J (61 + 4 * r) f) i = (decide (i < 16) && !decide (s 744 (160 * r + 16 * f + i) = 0))) ∧
  (s 738 r ≠ 0 → (J (58 + 4 * r) 4 = 0 ↔ s 745 r = -1)) ∧
  (s 738 r ≠ 0 → s 745 r ≠ -1 → J (58 + 4 * r) 13 = s 745 r) ∧
  (s 738 r ≠ 0 → J (58 + 4 * r) 5 = 0 → J (58 + 4 * r) 9 = gM0 (gBw A (s 739 r) (gEn s r)) ∧ J (58 + 4 * r) 10 = gBs A (s 739 r) (gEn s r)) ∧
  (s 738 r ≠ 0 → s 745 r ≠ -1 → J (58 + 4 * r) 5 = 0 ∧ J (58 + 4 * r) 11 = gJd A (gMk s r) ∧ J (58 + 4 * r) 12 = gSc A (s 739 r) (gEn s r) (gMk s r) (gSn s r))
theorem cRw_bgn {A J s : gd_C} {r : Nat} (h : cRw A J s r) : J (58 + 4 * r) 3 = s 738 r := h.1
theorem cRw_len {A J s : gd_C} {r : Nat} (h : cRw A J s r) : J (58 + 4 * r) 6 = s 739 r := h.2.1
theorem cRw_ent {A J s : gd_C} {r : Nat} (h : cRw A J s r) : ∀ i < 16, J (59 + 4 * r) i = s 740 (16 * r + i) := h.2.2.1
theorem cRw_mrk {A J s : gd_C} {r : Nat} (h : cRw A J s r) : ∀ j < 6, J (60 + 4 * r) j = s 741 (6 * r + j) := h.2.2.2.1
theorem cRw_mkd {A J s : gd_C} {r : Nat} (h : cRw A J s r) : J (58 + 4 * r) 7 = s 742 r := h.2.2.2.2.1
theorem cRw_ask {A J s : gd_C} {r : Nat} (h : cRw A J s r) : J (58 + 4 * r) 8 = s 743 r := h.2.2.2.2.2.1
theorem cRw_inq {A J s : gd_C} {r : Nat} (h : cRw A J s r) : J (58 + 4 * r) 14 = s 746 r := h.2.2.2.2.2.2.1
theorem cRw_sen {A J s : gd_C} {r : Nat} (h : cRw A J s r) : ∀ f < 10, ∀ i, gb (J (61 + 4 * r) f) i = (decide (i < 16) && !decide (s 744 (160 * r + 16 * f + i) = 0)) := h.2.2.2.2.2.2.2.1
theorem cRw_pst {A J s : gd_C} {r : Nat} (h : cRw A J s r) : s 738 r ≠ 0 → (J (58 + 4 * r) 4 = 0 ↔ s 745 r = -1) := h.2.2.2.2.2.2.2.2.1
theorem cRw_pat {A J s : gd_C} {r : Nat} (h : cRw A J s r) : s 738 r ≠ 0 → s 745 r ≠ -1 → J (58 + 4 * r) 13 = s 745 r := h.2.2.2.2.2.2.2.2.2.1
theorem cRw_sta {A J s : gd_C} {r : Nat} (h : cRw A J s r) : s 738 r ≠ 0 → J (58 + 4 * r) 5 = 0 → J (58 + 4 * r) 9 = gM0 (gBw A (s 739 r) (gEn s r)) ∧ J (58 + 4 * r) 10 = gBs A (s 739 r) (gEn s r) := h.2.2.2.2.2.2.2.2.2.2.1
theorem cRw_don {A J s : gd_C} {r : Nat} (h : cRw A J s r) : s 738 r ≠ 0 → s 745 r ≠ -1 → J (58 + 4 * r) 5 = 0 ∧ J (58 + 4 * r) 11 = gJd A (gMk s r) ∧ J (58 + 4 * r) 12 = gSc A (s 739 r) (gEn s r) (gMk s r) (gSn s r) := h.2.2.2.2.2.2.2.2.2.2.2
/-- the class's half shows the abstract state -/
def cAll (c n : Nat) (J s : gd_C) : Prop :=
  (cMt J s) ∧
  (cCd c J (gCd n s)) ∧
  (∀ r < 160, cRw (gCd n s) J s r)
theorem cAll_mt {c n : Nat} {J s : gd_C} (h : cAll c n J s) : cMt J s := h.1
theorem cAll_cd {c n : Nat} {J s : gd_C} (h : cAll c n J s) : cCd c J (gCd n s) := h.2.1
theorem cAll_rw {c n : Nat} {J s : gd_C} (h : cAll c n J s) : ∀ r < 160, cRw (gCd n s) J s r := h.2.2
/-- which cells of the reference are of the abstract state -/
def gRl (n a j : Nat) : Bool := (Nat.ble 735 a && Nat.ble a 746) || Nat.beq a 732 || (Nat.beq a 698 && (Nat.beq j 4 || Nat.beq j 14 || Nat.beq j 15 || Nat.beq j 18 || Nat.beq j 19)) || (Nat.ble n a && Nat.ble a (n + 15))
def gSm (n : Nat) (J s : gd_C) : Prop := ∀ a j, gRl n a j = true → J a j = s a j
/-- what the reference has tried -/
def gCh (n : Nat) (J s : gd_C) : Prop := ∀ r < 160, s 738 r ≠ 0 → J 749 r ≠ 0 → J 747 r = gBw (gCd n s) (s 739 r) (gEn s r) ∧ J 748 r = gBs (gCd n s) (s 739 r) (gEn s r)
/-- the whole relation -/
def gRel (c d n p : Nat) (m : gd_M) (s : gd_C) : Prop := gK c d n p m ∧ iAll n s ∧ cAll c n (gI m) s ∧ gSm n (gI m) s ∧ gCh n (gI m) s
/-- nothing but the class's half (the reference's half) has changed -/
def oX (m m1 : gd_M) : Prop := m1.2 = m.2 ∧ ∀ a, (a < 8 ∨ 698 ≤ a) → gI m1 a = gI m a
def oM (m m1 : gd_M) : Prop := m1.2 = m.2 ∧ ∀ a, a < 698 → gI m1 a = gI m a
/-- a call of the class: its answer and the state behind it; one of the reference -/
def tX (X : Nat) (as : List Value) (c n : Nat) (m : gd_M) (v : Int32) (s' : gd_C) : Prop := ∃ m1, gd_call X (.ref 8 :: as) m = some (.int v, m1) ∧ oX m m1 ∧ cAll c n (gI m1) s'
def tM (M : Nat) (as : List Value) (n : Nat) (m : gd_M) (v : Int32) (s' : gd_C) : Prop := ∃ m1, gd_call M (.ref 698 :: as) m = some (.int v, m1) ∧ oM m m1 ∧ gSm n (gI m1) s' ∧ gCh n (gI m1) s'
/-- both calls answer alike and keep the relation -/
def gPr (X M : Nat) (as : List Value) (m : gd_M) : Prop := ∃ v m1 m2, gd_call X (.ref 8 :: as) m = some (.int v, m1) ∧ gI m1 3 = gI m 3 ∧ gd_call M (.ref 698 :: as) m1 = some (.int v, m2) ∧ gI m2 3 = gI m1 3 ∧ gL m2 = gL m ∧ gL m1 = gL m ∧ gN m1 = 758 ∧ ∃ c d n p s, gRel c d n p m2 s
theorem oX_refl {m : gd_M} : oX m m := ⟨rfl, fun _ _ => rfl⟩
theorem oM_refl {m : gd_M} : oM m m := ⟨rfl, fun _ _ => rfl⟩
theorem oX_w {m m1 : gd_M} {a k : Nat} {x : Int32} (h : oX m m1) (ha : 8 ≤ a ∧ a < 698) : oX m (wI m1 a k x) := ⟨h.1, fun b hb => by rw [← h.2 b hb]; funext j; exact if_neg fun q => by omega⟩
theorem oM_w {m m1 : gd_M} {a k : Nat} {x : Int32} (h : oM m m1) (ha : ¬ a < 698) : oM m (wI m1 a k x) := ⟨h.1, fun b hb => by rw [← h.2 b hb]; funext j; exact if_neg fun q => by omega⟩
theorem oX_tr {m m1 m2 : gd_M} (h : oX m m1) (h2 : oX m1 m2) : oX m m2 := ⟨h2.1.trans h.1, fun b hb => (h2.2 b hb).trans (h.2 b hb)⟩
theorem oM_tr {m m1 m2 : gd_M} (h : oM m m1) (h2 : oM m1 m2) : oM m m2 := ⟨h2.1.trans h.1, fun b hb => (h2.2 b hb).trans (h.2 b hb)⟩
theorem gK_o {c d n p : Nat} {m m1 : gd_M} (h : gK c d n p m) (q : m1.2 = m.2) : gK c d n p m1 := by
  obtain ⟨I, t⟩ := m; obtain ⟨I1, t1⟩ := m1
  have q' : t1 = t := q
  subst q'; exact h
theorem gRl_lo {n p : Nat} {a j : Nat} (hn : n = 700 ∨ n = 716) (h : gRl n a j = true) : ¬ a < 698 := by
  intro ha
  have hb : ∀ x y : Nat, y < x → Nat.ble x y = false := fun x y q => by
    cases e : Nat.ble x y with
    | false => rfl
    | true => have := Nat.le_of_ble_eq_true e; omega
  have hq : ∀ x y : Nat, x ≠ y → Nat.beq x y = false := fun x y q => by
    cases e : Nat.beq x y with
    | false => rfl
    | true => exact absurd (Nat.eq_of_beq_eq_true e) q
  have h1 : Nat.ble 735 a = false := hb _ _ (by omega)
  have h2 : Nat.beq a 732 = false := hq _ _ (by omega)
  have h3 : Nat.beq a 698 = false := hq _ _ (by omega)
  have h4 : Nat.ble n a = false := hb _ _ (by omega)
  unfold gRl at h
  rw [h1, h2, h3, h4] at h
  simp at h
theorem gSm_oX {n : Nat} {m m1 : gd_M} {s : gd_C} (hn : n = 700 ∨ n = 716) (h : gSm n (gI m) s) (o : oX m m1) : gSm n (gI m1) s := fun a j q => by
  rw [o.2 a (.inr (by have := gRl_lo (p := 0) hn q; omega))]; exact h a j q
theorem gCh_oX {n : Nat} {m m1 : gd_M} {s : gd_C} (h : gCh n (gI m) s) (o : oX m m1) : gCh n (gI m1) s := fun r hr q1 q2 => by
  rw [o.2 747 (.inr (by decide)), o.2 748 (.inr (by decide))]
  rw [o.2 749 (.inr (by decide))] at q2
  exact h r hr q1 q2
theorem gSm_w {n : Nat} {m : gd_M} {s : gd_C} {a k : Nat} {x : Int32} (h : gSm n (gI m) s) : gSm n (gI (wI m a k x)) (gd_up s a k x) := fun b j q => by
  show (if b = a ∧ j = k then x else gI m b j) = (if b = a ∧ j = k then x else s b j)
  rw [h b j q]
theorem gSm_n {n : Nat} {m : gd_M} {s : gd_C} {a k : Nat} {x : Int32} (h : gSm n (gI m) s) (ha : gRl n a k = false) : gSm n (gI (wI m a k x)) s := fun b j q => by
  show (if b = a ∧ j = k then x else gI m b j) = s b j
  rw [if_neg (fun e => by rw [e.1, e.2, ha] at q; exact absurd q (by decide))]
  exact h b j q
theorem cAll_o {c n : Nat} {J1 J2 s : gd_C} (hc : c = 32 ∨ c = 45) (o : ∀ a, a < 698 → J2 a = J1 a) (h : cAll c n J1 s) : cAll c n J2 s := by
  refine ⟨?_, ?_, fun r hr => ?_⟩
  · have q := cAll_mt h
    unfold cMt at q ⊢
    rw [o 8 (by decide), o 9 (by decide), o 10 (by decide), o 28 (by decide), o 29 (by decide), o 30 (by decide)]
    exact q
  · have q := cAll_cd h
    unfold cCd at q ⊢
    rw [o c (by omega), o (c + 1) (by omega), o (c + 2) (by omega), o (c + 3) (by omega), o (c + 4) (by omega), o (c + 5) (by omega), o (c + 6) (by omega), o (c + 7) (by omega), o (c + 8) (by omega), o (c + 9) (by omega), o (c + 10) (by omega), o (c + 11) (by omega), o (c + 12) (by omega)]
    exact q
  · have q := cAll_rw h r hr
    unfold cRw at q ⊢
    rw [o (58 + 4 * r) (by omega), o (59 + 4 * r) (by omega), o (60 + 4 * r) (by omega), o (61 + 4 * r) (by omega)]
    exact q
theorem gPr_of {X M : Nat} {as : List Value} {c d n p : Nat} {m : gd_M} {s s' : gd_C} {v : Int32} (h : gRel c d n p m s) (hx : tX X as c n m v s') (hm : ∀ m1, gK c d n p m1 → gSm n (gI m1) s → gCh n (gI m1) s → tM M as n m1 v s') (hi : iAll n s') : gPr X M as m := by
  obtain ⟨K, hI, hC, hS, hH⟩ := h
  obtain ⟨m1, e1, o1, c1⟩ := hx
  have K1 := gK_o K o1.1
  obtain ⟨m2, e2, o2, s2, h2⟩ := hm m1 K1 (gSm_oX (gK_n1 K) hS o1) (gCh_oX hH o1)
  have l1 : gL m1 = gL m := congrArg (fun t => t.2.2.2.2) o1.1
  have l2 : gL m2 = gL m1 := congrArg (fun t => t.2.2.2.2) o2.1
  exact ⟨v, m1, m2, e1, o1.2 3 (.inl (by decide)), e2, o2.2 3 (by decide), l2.trans l1, l1, gK_N K1, c, d, n, p, s', gK_o K1 o2.1, hi, cAll_o (gK_c1 K) o2.2 c1, s2, h2⟩
/-! reads of the reference's half -/
section GSR
variable {c d n p : Nat} {m : gd_M} {s : gd_C} {j : Nat}
theorem gCd_k {k : Nat} (h : k < 16) : gCd n s k j = s (n + k) j := if_pos h
theorem gRl_n (hn : n = 700 ∨ n = 716) (k : Nat) (hk : k < 16) : gRl n (n + k) j = true := by
  have h4 : Nat.ble n (n + k) = true := Nat.ble_eq_true_of_le (by omega)
  have h5 : Nat.ble (n + k) (n + 15) = true := Nat.ble_eq_true_of_le (by omega)
  unfold gRl; rw [h4, h5]; simp
theorem gS_n (K : gK c d n p m) (S : gSm n (gI m) s) : gI m n j = gCd n s 0 j := S n j (gRl_n (gK_n1 K) 0 (by decide))
theorem gS_n5 (K : gK c d n p m) (S : gSm n (gI m) s) : gI m (n + 5) j = gCd n s 5 j := S (n + 5) j (gRl_n (gK_n1 K) 5 (by decide))
theorem gS_n6 (K : gK c d n p m) (S : gSm n (gI m) s) : gI m (n + 6) j = gCd n s 6 j := S (n + 6) j (gRl_n (gK_n1 K) 6 (by decide))
theorem gS_n7 (K : gK c d n p m) (S : gSm n (gI m) s) : gI m (n + 7) j = gCd n s 7 j := S (n + 7) j (gRl_n (gK_n1 K) 7 (by decide))
theorem gS_n8 (K : gK c d n p m) (S : gSm n (gI m) s) : gI m (n + 8) j = gCd n s 8 j := S (n + 8) j (gRl_n (gK_n1 K) 8 (by decide))
theorem gS_n9 (K : gK c d n p m) (S : gSm n (gI m) s) : gI m (n + 9) j = gCd n s 9 j := S (n + 9) j (gRl_n (gK_n1 K) 9 (by decide))
theorem gS_n10 (K : gK c d n p m) (S : gSm n (gI m) s) : gI m (n + 10) j = gCd n s 10 j := S (n + 10) j (gRl_n (gK_n1 K) 10 (by decide))
theorem gS_n11 (K : gK c d n p m) (S : gSm n (gI m) s) : gI m (n + 11) j = gCd n s 11 j := S (n + 11) j (gRl_n (gK_n1 K) 11 (by decide))
theorem gS_n12 (K : gK c d n p m) (S : gSm n (gI m) s) : gI m (n + 12) j = gCd n s 12 j := S (n + 12) j (gRl_n (gK_n1 K) 12 (by decide))
theorem gS_n13 (K : gK c d n p m) (S : gSm n (gI m) s) : gI m (n + 13) j = gCd n s 13 j := S (n + 13) j (gRl_n (gK_n1 K) 13 (by decide))
theorem gS_n14 (K : gK c d n p m) (S : gSm n (gI m) s) : gI m (n + 14) j = gCd n s 14 j := S (n + 14) j (gRl_n (gK_n1 K) 14 (by decide))
theorem gS_n15 (K : gK c d n p m) (S : gSm n (gI m) s) : gI m (n + 15) j = gCd n s 15 j := S (n + 15) j (gRl_n (gK_n1 K) 15 (by decide))
theorem gS_732 (S : gSm n (gI m) s) : gI m 732 j = s 732 j := S 732 j rfl
theorem gS_735 (S : gSm n (gI m) s) : gI m 735 j = s 735 j := S 735 j rfl
theorem gS_736 (S : gSm n (gI m) s) : gI m 736 j = s 736 j := S 736 j rfl
theorem gS_737 (S : gSm n (gI m) s) : gI m 737 j = s 737 j := S 737 j rfl
theorem gS_738 (S : gSm n (gI m) s) : gI m 738 j = s 738 j := S 738 j rfl
theorem gS_739 (S : gSm n (gI m) s) : gI m 739 j = s 739 j := S 739 j rfl
theorem gS_740 (S : gSm n (gI m) s) : gI m 740 j = s 740 j := S 740 j rfl
theorem gS_741 (S : gSm n (gI m) s) : gI m 741 j = s 741 j := S 741 j rfl
theorem gS_742 (S : gSm n (gI m) s) : gI m 742 j = s 742 j := S 742 j rfl
theorem gS_743 (S : gSm n (gI m) s) : gI m 743 j = s 743 j := S 743 j rfl
theorem gS_744 (S : gSm n (gI m) s) : gI m 744 j = s 744 j := S 744 j rfl
theorem gS_745 (S : gSm n (gI m) s) : gI m 745 j = s 745 j := S 745 j rfl
theorem gS_746 (S : gSm n (gI m) s) : gI m 746 j = s 746 j := S 746 j rfl
theorem gS_698_4 (S : gSm n (gI m) s) : gI m 698 4 = s 698 4 := S 698 4 rfl
theorem gS_698_14 (S : gSm n (gI m) s) : gI m 698 14 = s 698 14 := S 698 14 rfl
theorem gS_698_15 (S : gSm n (gI m) s) : gI m 698 15 = s 698 15 := S 698 15 rfl
theorem gS_698_18 (S : gSm n (gI m) s) : gI m 698 18 = s 698 18 := S 698 18 rfl
theorem gS_698_19 (S : gSm n (gI m) s) : gI m 698 19 = s 698 19 := S 698 19 rfl
end GSR
