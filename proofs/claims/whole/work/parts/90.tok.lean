/-! ===== tokens, names as codes ===== -/
/-- what stands at i; nothing: -1 -/
def gSe (t : Nat → Int32) (T i : Nat) : Int32 := if i < T then t i &&& 255 else -1
def gSma (x : Int32) : Bool := !decide (x < 97) && !decide (122 < x)
def gDig (x : Int32) : Bool := !decide (x < 48) && !decide (57 < x)
def gBla (x : Int32) : Bool := decide (x = 32) || decide (x = 10)
theorem gBy_ok : ∀ k < 256, gSma ((Int8.ofBitVec (BitVec.ofNat 8 k)).toInt32 &&& 255) = gSma (Int8.ofBitVec (BitVec.ofNat 8 k)).toInt32 ∧ gDig ((Int8.ofBitVec (BitVec.ofNat 8 k)).toInt32 &&& 255) = gDig (Int8.ofBitVec (BitVec.ofNat 8 k)).toInt32 ∧ gBla ((Int8.ofBitVec (BitVec.ofNat 8 k)).toInt32 &&& 255) = gBla (Int8.ofBitVec (BitVec.ofNat 8 k)).toInt32 ∧ ((Int8.ofBitVec (BitVec.ofNat 8 k)).toInt32 &&& 255 = 59 ↔ (Int8.ofBitVec (BitVec.ofNat 8 k)).toInt32 = 59) ∧ (gSma (Int8.ofBitVec (BitVec.ofNat 8 k)).toInt32 = true → (Int8.ofBitVec (BitVec.ofNat 8 k)).toInt32 &&& 255 = (Int8.ofBitVec (BitVec.ofNat 8 k)).toInt32) ∧ (gDig (Int8.ofBitVec (BitVec.ofNat 8 k)).toInt32 = true → (Int8.ofBitVec (BitVec.ofNat 8 k)).toInt32 &&& 255 = (Int8.ofBitVec (BitVec.ofNat 8 k)).toInt32) ∧ ¬ (Int8.ofBitVec (BitVec.ofNat 8 k)).toInt32 &&& 255 = -1 := by decide +kernel
theorem isB_k {b : Int32} (h : isB b) : ∃ k < 256, b = (Int8.ofBitVec (BitVec.ofNat 8 k)).toInt32 := by
  obtain ⟨w, rfl⟩ := h
  refine ⟨w.toBitVec.toNat, w.toBitVec.isLt, ?_⟩
  rw [show BitVec.ofNat 8 w.toBitVec.toNat = w.toBitVec by simp]
  rfl
theorem isB_ok {b : Int32} (h : isB b) : gSma (b &&& 255) = gSma b ∧ gDig (b &&& 255) = gDig b ∧ gBla (b &&& 255) = gBla b ∧ (b &&& 255 = 59 ↔ b = 59) ∧ (gSma b = true → b &&& 255 = b) ∧ (gDig b = true → b &&& 255 = b) ∧ ¬ b &&& 255 = -1 := by
  obtain ⟨k, hk, rfl⟩ := isB_k h
  exact gBy_ok k hk
theorem gSma_n {x : Int32} (h : gSma x = true) : ∃ c, 97 ≤ c ∧ c ≤ 122 ∧ x = Int32.ofNat c := by
  have h1 := Bool.and_eq_true_iff.1 h
  have a1 : ¬ x < 97 := by have := h1.1; simpa using this
  have a2 : ¬ 122 < x := by have := h1.2; simpa using this
  have h0 : ¬ x < 0 := fun q => a1 (Int32.lt_trans q (by decide))
  obtain ⟨c, hc, rfl⟩ := gn_pos (Int32.not_lt.1 h0)
  refine ⟨c, ?_, ?_, rfl⟩
  · by_cases q : c < 97
    · exact absurd ((gn_lt (a := c) (b := 97) hc (by decide)).2 q) a1
    · omega
  · by_cases q : 122 < c
    · exact absurd ((gn_lt (b := c) (a := 122) (by decide) hc).2 q) a2
    · omega
/-- from e on as long as P, at most j steps -/
def gWh (P : Nat → Bool) : Nat → Nat → Nat
  | 0, e => e
  | j + 1, e => if P e = true then gWh P j (e + 1) else e
theorem gWh_b {P : Nat → Bool} : ∀ j e, e ≤ gWh P j e ∧ gWh P j e ≤ e + j ∧ ∀ i, e ≤ i → i < gWh P j e → P i = true := by
  intro j
  induction j with
  | zero => intro e; exact ⟨Nat.le_refl e, Nat.le_refl e, fun i h1 h2 => absurd h2 (Nat.not_lt.2 h1)⟩
  | succ j ih =>
    intro e
    by_cases h : P e = true
    · have e1 : gWh P (j + 1) e = gWh P j (e + 1) := if_pos h
      obtain ⟨a1, a2, a3⟩ := ih (e + 1)
      rw [e1]
      refine ⟨by omega, by omega, fun i h1 h2 => ?_⟩
      by_cases q : i = e
      · rw [q]; exact h
      · exact a3 i (by omega) h2
    · have e1 : gWh P (j + 1) e = e := if_neg h
      rw [e1]
      exact ⟨Nat.le_refl e, by omega, fun i h1 h2 => absurd h2 (Nat.not_lt.2 h1)⟩
theorem gWh_y {P : Nat → Bool} {j e : Nat} (h : P e = true) : gWh P (j + 1) e = gWh P j (e + 1) := if_pos h
theorem gWh_n {P : Nat → Bool} {j e : Nat} (h : P e = false) : gWh P (j + 1) e = e := if_neg (by rw [h]; decide)
theorem gWh_e {P : Nat → Bool} : ∀ j e, gWh P j e < e + j → P (gWh P j e) = false := by
  intro j
  induction j with
  | zero => intro e h; exact absurd h (Nat.lt_irrefl e)
  | succ j ih =>
    intro e h
    cases q : P e with
    | true => rw [gWh_y q] at h ⊢; exact ih (e + 1) (by omega)
    | false => rw [gWh_n q]; exact q
/-! codes of letters -/
def gC8 (f : Nat → Int32) : Nat → Int64
  | 0 => 0
  | j + 1 => ((gC8 f j) <<< ((8 : Int32).toInt64 &&& 63)) ||| (f j).toInt64
def nC (B o : Nat) (f : Nat → Int32) : Nat → Nat
  | 0 => 0
  | j + 1 => B * nC B o f j + (gn (f j) - o)
theorem g64_cat {a d s : Nat} {y : Int64} (hs : (((y &&& 63).toBitVec).smod 64).toNat = s) (hd : d < 2 ^ s) : (Int64.ofNat a <<< (y &&& 63)) ||| Int64.ofNat d = Int64.ofNat (2 ^ s * a + d) := by
  refine Int64.toBitVec_inj.1 (BitVec.eq_of_getLsbD_eq fun i hi => ?_)
  show ((BitVec.ofNat 64 a <<< (((y &&& 63).toBitVec).smod 64).toNat) ||| BitVec.ofNat 64 d).getLsbD i = (BitVec.ofNat 64 (2 ^ s * a + d)).getLsbD i
  rw [hs, BitVec.getLsbD_or, BitVec.getLsbD_shiftLeft, BitVec.getLsbD_ofNat, BitVec.getLsbD_ofNat, BitVec.getLsbD_ofNat, Nat.testBit_two_pow_mul_add a hd, decide_eq_true hi]
  by_cases h : i < s
  · rw [if_pos h, decide_eq_true h]; simp
  · rw [if_neg h, decide_eq_false h, decide_eq_true (show i - s < 64 by omega)]
    have h2 : d < 2 ^ i := Nat.lt_of_lt_of_le hd (Nat.pow_le_pow_right (by decide) (by omega))
    rw [Nat.testBit_lt_two_pow h2]; simp
theorem g64_n {k : Nat} (h : k < 2147483648) : (Int32.ofNat k).toInt64 = Int64.ofNat k := by
  refine Int64.toInt_inj.1 ?_
  rw [Int32.toInt_toInt64, gn_toInt h, Int64.toInt_ofNat_of_lt (by omega)]
/-- all letters below j are small -/
def gLt (f : Nat → Int32) (j : Nat) : Prop := ∀ i < j, gSma (f i) = true
theorem gLt_c {f : Nat → Int32} {j i : Nat} (h : gLt f j) (hi : i < j) : ∃ c, 97 ≤ c ∧ c ≤ 122 ∧ f i = Int32.ofNat c ∧ gn (f i) = c := by
  obtain ⟨c, a1, a2, a3⟩ := gSma_n (h i hi)
  exact ⟨c, a1, a2, a3, by rw [a3, gn_of (by omega)]⟩
theorem gC5_n {f : Nat → Int32} : ∀ j, gLt f j → gC5 f j = Int64.ofNat (nC 32 96 f j) := by
  intro j
  induction j with
  | zero => intro _; rfl
  | succ j ih =>
    intro h
    obtain ⟨c, a1, a2, a3, a4⟩ := gLt_c h (Nat.lt_succ_self j)
    show ((gC5 f j) <<< ((5 : Int32).toInt64 &&& 63)) ||| ((f j - 96 : Int32)).toInt64 = Int64.ofNat (32 * nC 32 96 f j + (gn (f j) - 96))
    have e1 : Int32.ofNat c - 96 = Int32.ofNat (c - 96) := gn_sub (b := 96) (by omega)
    rw [ih fun i hi => h i (by omega), a4, a3, e1, g64_n (by omega), g64_cat (s := 5) (by decide +kernel) (by show c - 96 < 32; omega)]
theorem gC8_n {f : Nat → Int32} : ∀ j, gLt f j → gC8 f j = Int64.ofNat (nC 256 0 f j) := by
  intro j
  induction j with
  | zero => intro _; rfl
  | succ j ih =>
    intro h
    obtain ⟨c, a1, a2, a3, a4⟩ := gLt_c h (Nat.lt_succ_self j)
    show ((gC8 f j) <<< ((8 : Int32).toInt64 &&& 63)) ||| (f j).toInt64 = Int64.ofNat (256 * nC 256 0 f j + (gn (f j) - 0))
    rw [ih fun i hi => h i (by omega), a4, a3, g64_n (by omega), g64_cat (s := 8) (by decide +kernel) (by show c < 256; omega)]
    rfl
theorem nB_ad {B A C x y : Nat} (h : B * A + x = B * C + y) (hx : x < B) (hy : y < B) : A = C ∧ x = y := by
  have h1 : (B * A + x) / B = A := by rw [Nat.mul_add_div (by omega), Nat.div_eq_of_lt hx, Nat.add_zero]
  have h2 : (B * C + y) / B = C := by rw [Nat.mul_add_div (by omega), Nat.div_eq_of_lt hy, Nat.add_zero]
  have h3 : A = C := by rw [← h1, ← h2, h]
  refine ⟨h3, ?_⟩
  rw [h3] at h; omega
theorem nC_lt {B o : Nat} {f : Nat → Int32} (hB : 0 < B) : ∀ j, (∀ i < j, gn (f i) - o < B) → nC B o f j < B ^ j := by
  intro j
  induction j with
  | zero => intro _; exact Nat.one_pos
  | succ j ih =>
    intro h
    have h1 := ih fun i hi => h i (by omega)
    have h2 := h j (Nat.lt_succ_self j)
    show B * nC B o f j + (gn (f j) - o) < B ^ (j + 1)
    rw [Nat.pow_succ, Nat.mul_comm (B ^ j) B]
    have h3 : B * (nC B o f j + 1) ≤ B * B ^ j := Nat.mul_le_mul_left B h1
    rw [Nat.mul_add, Nat.mul_one] at h3
    omega
theorem nC_inj {B o : Nat} {f g : Nat → Int32} : ∀ j k, (∀ i < j, 0 < gn (f i) - o ∧ gn (f i) - o < B) → (∀ i < k, 0 < gn (g i) - o ∧ gn (g i) - o < B) → nC B o f j = nC B o g k → j = k ∧ ∀ i < j, gn (f i) - o = gn (g i) - o := by
  intro j
  induction j with
  | zero =>
    intro k _ hg h
    cases k with
    | zero => exact ⟨rfl, fun i hi => absurd hi (Nat.not_lt_zero i)⟩
    | succ k =>
      have h1 := (hg k (Nat.lt_succ_self k)).1
      have h : 0 = B * nC B o g k + (gn (g k) - o) := h
      omega
  | succ j ih =>
    intro k hf hg h
    cases k with
    | zero =>
      have h1 := (hf j (Nat.lt_succ_self j)).1
      have h : B * nC B o f j + (gn (f j) - o) = 0 := h
      omega
    | succ k =>
      have h : B * nC B o f j + (gn (f j) - o) = B * nC B o g k + (gn (g k) - o) := h
      obtain ⟨a1, a2⟩ := nB_ad h (hf j (Nat.lt_succ_self j)).2 (hg k (Nat.lt_succ_self k)).2
      obtain ⟨b1, b2⟩ := ih k (fun i hi => hf i (by omega)) (fun i hi => hg i (by omega)) a1
      refine ⟨by omega, fun i hi => ?_⟩
      by_cases e : i = j
      · rw [e, a2, b1]
      · exact b2 i (by omega)
theorem g64_inj {a b : Nat} (ha : a < 2 ^ 63) (hb : b < 2 ^ 63) (h : Int64.ofNat a = Int64.ofNat b) : a = b := by
  have := congrArg Int64.toInt h
  rw [Int64.toInt_ofNat_of_lt ha, Int64.toInt_ofNat_of_lt hb] at this
  omega
theorem gC5_inj {f g : Nat → Int32} {j k : Nat} (hf : gLt f j) (hg : gLt g k) (hj : j ≤ 10) (hk : k ≤ 10) : gC5 f j = gC5 g k ↔ j = k ∧ ∀ i < j, f i = g i := by
  constructor
  · intro h
    rw [gC5_n j hf, gC5_n k hg] at h
    have df : ∀ i < j, 0 < gn (f i) - 96 ∧ gn (f i) - 96 < 32 := fun i hi => by
      obtain ⟨c, a1, a2, a3, a4⟩ := gLt_c hf hi; omega
    have dg : ∀ i < k, 0 < gn (g i) - 96 ∧ gn (g i) - 96 < 32 := fun i hi => by
      obtain ⟨c, a1, a2, a3, a4⟩ := gLt_c hg hi; omega
    have b1 := nC_lt (o := 96) (f := f) (show 0 < 32 by decide) j fun i hi => (df i hi).2
    have b2 := nC_lt (o := 96) (f := g) (show 0 < 32 by decide) k fun i hi => (dg i hi).2
    have p1 : (32 : Nat) ^ j ≤ 32 ^ 10 := Nat.pow_le_pow_right (by decide) hj
    have p2 : (32 : Nat) ^ k ≤ 32 ^ 10 := Nat.pow_le_pow_right (by decide) hk
    have p3 : (32 : Nat) ^ 10 < 2 ^ 63 := by decide
    obtain ⟨e1, e2⟩ := nC_inj j k df dg (g64_inj (by omega) (by omega) h)
    refine ⟨e1, fun i hi => ?_⟩
    obtain ⟨c, a1, a2, a3, a4⟩ := gLt_c hf hi
    obtain ⟨c', b1, b2, b3, b4⟩ := gLt_c hg (show i < k by omega)
    have := e2 i hi
    rw [a3, b3, show c = c' by omega]
  · rintro ⟨rfl, h⟩
    have : ∀ q, q ≤ j → gC5 f q = gC5 g q := by
      intro q
      induction q with
      | zero => intro _; rfl
      | succ q ih =>
        intro hq
        show ((gC5 f q) <<< _) ||| ((f q - 96 : Int32)).toInt64 = ((gC5 g q) <<< _) ||| ((g q - 96 : Int32)).toInt64
        rw [ih (by omega), h q (by omega)]
    exact this j (Nat.le_refl j)
theorem gC8_c {f g : Nat → Int32} : ∀ j, (∀ i < j, f i = g i) → gC8 f j = gC8 g j := by
  intro j
  induction j with
  | zero => intro _; rfl
  | succ j ih =>
    intro h
    show ((gC8 f j) <<< _) ||| (f j).toInt64 = ((gC8 g j) <<< _) ||| (g j).toInt64
    rw [ih fun i hi => h i (by omega), h j (by omega)]
theorem gC8_inj {f g : Nat → Int32} {j k : Nat} (hf : gLt f j) (hg : gLt g k) (hj : j ≤ 5) (hk : k ≤ 5) (h : gC8 f j = gC8 g k) : j = k ∧ ∀ i < j, f i = g i := by
  rw [gC8_n j hf, gC8_n k hg] at h
  have df : ∀ i < j, 0 < gn (f i) - 0 ∧ gn (f i) - 0 < 256 := fun i hi => by
    obtain ⟨c, a1, a2, a3, a4⟩ := gLt_c hf hi; omega
  have dg : ∀ i < k, 0 < gn (g i) - 0 ∧ gn (g i) - 0 < 256 := fun i hi => by
    obtain ⟨c, a1, a2, a3, a4⟩ := gLt_c hg hi; omega
  have b1 := nC_lt (o := 0) (f := f) (show 0 < 256 by decide) j fun i hi => (df i hi).2
  have b2 := nC_lt (o := 0) (f := g) (show 0 < 256 by decide) k fun i hi => (dg i hi).2
  have p1 : (256 : Nat) ^ j ≤ 256 ^ 5 := Nat.pow_le_pow_right (by decide) hj
  have p2 : (256 : Nat) ^ k ≤ 256 ^ 5 := Nat.pow_le_pow_right (by decide) hk
  have p3 : (256 : Nat) ^ 5 < 2 ^ 63 := by decide
  obtain ⟨e1, e2⟩ := nC_inj j k df dg (g64_inj (by omega) (by omega) h)
  refine ⟨e1, fun i hi => ?_⟩
  obtain ⟨c, a1, a2, a3, a4⟩ := gLt_c hf hi
  obtain ⟨c', b1, b2, b3, b4⟩ := gLt_c hg (show i < k by omega)
  have := e2 i hi
  rw [a3, b3, show c = c' by omega]
/-- the reference's two codes of a name of j letters -/
def gNa (f : Nat → Int32) (j : Nat) : Int64 := gC8 f (min j 5)
def gNb (f : Nat → Int32) (j : Nat) : Int64 := gC8 (fun i => f (5 + i)) (j - 5)
theorem gC8_0 {f : Nat → Int32} {j : Nat} (hf : gLt f j) (hj : j ≤ 5) (h : gC8 f j = 0) : j = 0 := by
  have := gC8_inj (g := f) (k := 0) hf (fun i hi => absurd hi (Nat.not_lt_zero i)) hj (by decide) h
  exact this.1
theorem gNab_inj {f g : Nat → Int32} {j k : Nat} (hf : gLt f j) (hg : gLt g k) (hj : j ≤ 10) (hk : k ≤ 10) : (gNa f j = gNa g k ∧ gNb f j = gNb g k) ↔ j = k ∧ ∀ i < j, f i = g i := by
  unfold gNa gNb
  have hf5 : gLt (fun i => f (5 + i)) (j - 5) := fun i hi => hf (5 + i) (by omega)
  have hg5 : gLt (fun i => g (5 + i)) (k - 5) := fun i hi => hg (5 + i) (by omega)
  constructor
  · rintro ⟨h1, h2⟩
    obtain ⟨a1, a2⟩ := gC8_inj (fun i hi => hf i (by omega)) (fun i hi => hg i (by omega)) (Nat.min_le_right j 5) (Nat.min_le_right k 5) h1
    obtain ⟨b1, b2⟩ := gC8_inj hf5 hg5 (by omega) (by omega) h2
    refine ⟨by omega, fun i hi => ?_⟩
    by_cases q : i < 5
    · exact a2 i (by omega)
    · have := b2 (i - 5) (by omega)
      rw [show 5 + (i - 5) = i by omega] at this
      exact this
  · rintro ⟨rfl, h⟩
    exact ⟨gC8_c _ fun i hi => h i (by omega), gC8_c _ fun i hi => h (5 + i) (by omega)⟩
theorem lg_cmp0 {a b : Int64} : lg_cmp a b = 0 ↔ a = b := by
  unfold lg_cmp
  by_cases h : a = b
  · subst h
    rw [if_neg (show ¬ a > a from Int64.lt_irrefl), if_pos rfl]; simp
  · rw [if_neg h]
    constructor
    · intro q
      by_cases h2 : a > b
      · rw [if_pos h2] at q; exact absurd q (by decide)
      · rw [if_neg h2] at q; exact absurd q (by decide)
    · intro q; exact absurd q h
/-! quoted words -/
theorem gWs_ok : ∀ w < 19, gWs w + gWl w < 99 ∧ gd_tx (gWs w + gWl w) = 32 ∧ (∀ i < gWl w, gd_tx (gWs w + i) ≠ 32 ∧ gSma (gd_tx (gWs w + i)) = true) ∧ (w < 18 → gWs (w + 1) = gWs w + gWl w + 1) ∧ (w = 18 → gWs w + gWl w + 1 = 99) ∧ gWl w ≤ 10 := by decide +kernel
def kM (f : Nat → Int32) (len w : Nat) : Bool := decide (gWl w = len) && (List.range len).all fun i => decide (gd_tx (gWs w + i) = f i)
theorem kM_t {f : Nat → Int32} {len w : Nat} : kM f len w = true ↔ gWl w = len ∧ ∀ i < len, gd_tx (gWs w + i) = f i := by
  unfold kM
  rw [Bool.and_eq_true, decide_eq_true_iff, List.all_eq_true]
  constructor
  · rintro ⟨h1, h2⟩
    exact ⟨h1, fun i hi => of_decide_eq_true (h2 i (List.mem_range.2 hi))⟩
  · rintro ⟨h1, h2⟩
    exact ⟨h1, fun i hi => decide_eq_true (h2 i (List.mem_range.1 hi))⟩
theorem kW_u : ∀ w < 19, ∀ v < 19, (gWl w = gWl v ∧ ∀ i < gWl w, gd_tx (gWs w + i) = gd_tx (gWs v + i)) → w = v := by decide +kernel
theorem kM_u {f : Nat → Int32} {len w v : Nat} (hw : w < 19) (hv : v < 19) (h1 : kM f len w = true) (h2 : kM f len v = true) : w = v := by
  obtain ⟨a1, a2⟩ := kM_t.1 h1
  obtain ⟨b1, b2⟩ := kM_t.1 h2
  refine kW_u w hw v hv ⟨a1.trans b1.symm, fun i hi => ?_⟩
  rw [a2 i (by omega), b2 i (by omega)]
/-- the first word from w on that is f; behind all: 19 -/
def kFi (f : Nat → Int32) (len : Nat) : Nat → Nat → Nat
  | 0, w => w
  | j + 1, w => if kM f len w = true then w else kFi f len j (w + 1)
theorem kFi_b {f : Nat → Int32} {len : Nat} : ∀ j w, w ≤ kFi f len j w ∧ kFi f len j w ≤ w + j ∧ (kFi f len j w < w + j → kM f len (kFi f len j w) = true) ∧ ∀ v, w ≤ v → v < kFi f len j w → kM f len v = false := by
  intro j
  induction j with
  | zero => intro w; exact ⟨Nat.le_refl w, Nat.le_refl w, fun h => absurd h (Nat.lt_irrefl w), fun v h1 h2 => absurd h2 (Nat.not_lt.2 h1)⟩
  | succ j ih =>
    intro w
    cases h : kM f len w with
    | true =>
      have e1 : kFi f len (j + 1) w = w := if_pos h
      rw [e1]
      exact ⟨Nat.le_refl w, by omega, fun _ => h, fun v h1 h2 => absurd h2 (Nat.not_lt.2 h1)⟩
    | false =>
      have e1 : kFi f len (j + 1) w = kFi f len j (w + 1) := if_neg (by rw [h]; decide)
      obtain ⟨a1, a2, a3, a4⟩ := ih (w + 1)
      rw [e1]
      refine ⟨by omega, by omega, fun q => a3 (by omega), fun v h1 h2 => ?_⟩
      by_cases e : v = w
      · rw [e]; exact h
      · exact a4 v (by omega) h2
def kKey (f : Nat → Int32) (len : Nat) : Nat := kFi f len 19 0
theorem kKey_19 {f : Nat → Int32} {len : Nat} : kKey f len ≤ 19 := by have := (kFi_b (f := f) (len := len) 19 0).2.1; unfold kKey; omega
/-- the class finds a word by its code -/
theorem kKey_q {f : Nat → Int32} {len w : Nat} (hf : gLt f len) (hl : len ≤ 10) (hw : w < 19) : gQ w = gC5 f len ↔ w = kKey f len := by
  obtain ⟨b1, b2, b3, b4⟩ := kFi_b (f := f) (len := len) 19 0
  have hq : gQ w = gC5 f len ↔ kM f len w = true := by
    unfold gQ
    obtain ⟨g1, g2, g3, -, -, g4⟩ := gWs_ok w hw
    rw [gC5_inj (fun i hi => (g3 i hi).2) hf g4 hl, kM_t]
    constructor
    · rintro ⟨h1, h2⟩; exact ⟨h1, fun i hi => h2 i (by omega)⟩
    · rintro ⟨h1, h2⟩; exact ⟨h1, fun i hi => h2 i (by omega)⟩
  rw [hq]
  unfold kKey
  constructor
  · intro h
    by_cases q : w < kFi f len 19 0
    · rw [b4 w (Nat.zero_le w) q] at h; exact absurd h (by decide)
    · exact kM_u hw (by omega) h (b3 (by omega))
  · intro h
    rw [h]; exact b3 (by omega)
theorem kKey_10 {f : Nat → Int32} {len : Nat} (h : 10 < len) : kKey f len = 19 := by
  obtain ⟨b1, b2, b3, b4⟩ := kFi_b (f := f) (len := len) 19 0
  unfold kKey
  by_cases q : kFi f len 19 0 < 19
  · have h1 := (kM_t.1 (b3 (by omega))).1
    have h2 := (gWs_ok _ q).2.2.2.2.2
    omega
  · omega
/-! the token that begins at s -/
def kSt (t : Nat → Int32) (T e : Nat) : Nat := gWh (fun i => gBla (gSe t T i)) (T - e) e
def kL (t : Nat → Int32) (T s : Nat) : Nat → Int32 := fun i => gSe t T (s + i)
def kEn (t : Nat → Int32) (T s : Nat) : Nat := if T ≤ s then s else if gSma (gSe t T s) = true then gWh (fun i => gSma (gSe t T i)) (T - s) s else if gDig (gSe t T s) = true then gWh (fun i => gDig (gSe t T i)) (T - s) s else s + 1
def kLn (t : Nat → Int32) (T s : Nat) : Nat := kEn t T s - s
def kWd (t : Nat → Int32) (T s : Nat) : Nat := kKey (kL t T s) (kLn t T s)
/-- 0 the end, 1 a name, 2 a quoted word, 3 a number, 4 a semicolon, 5 none of them -/
def kTy (t : Nat → Int32) (T s : Nat) : Nat := if T ≤ s then 0 else if gSma (gSe t T s) = true then (if kWd t T s < 19 then 2 else if kLn t T s ≤ 10 then 1 else 5) else if gDig (gSe t T s) = true then (if kLn t T s ≤ 3 then 3 else 5) else if gSe t T s = 59 then 4 else 5
def gNu (f : Nat → Int32) : Nat → Int32
  | 0 => 0
  | j + 1 => gNu f j * 10 + (f j - 48)
def kVa (t : Nat → Int32) (T s : Nat) : Int32 := gNu (kL t T s) (kLn t T s)
theorem kSt_b {t : Nat → Int32} {T e : Nat} (h : e ≤ T) : e ≤ kSt t T e ∧ kSt t T e ≤ T := by
  have := gWh_b (P := fun i => gBla (gSe t T i)) (T - e) e
  unfold kSt
  exact ⟨this.1, by omega⟩
theorem kEn_b {t : Nat → Int32} {T s : Nat} (h : s ≤ T) : s ≤ kEn t T s ∧ kEn t T s ≤ T := by
  unfold kEn
  by_cases h1 : T ≤ s
  · rw [if_pos h1]; omega
  · rw [if_neg h1]
    by_cases h2 : gSma (gSe t T s) = true
    · rw [if_pos h2]
      have := gWh_b (P := fun i => gSma (gSe t T i)) (T - s) s
      omega
    · rw [if_neg h2]
      by_cases h3 : gDig (gSe t T s) = true
      · rw [if_pos h3]
        have := gWh_b (P := fun i => gDig (gSe t T i)) (T - s) s
        omega
      · rw [if_neg h3]; omega
/-- a name or a word: letters alone -/
theorem kL_lt {t : Nat → Int32} {T s : Nat} (h : ¬ T ≤ s) (h2 : gSma (gSe t T s) = true) : gLt (kL t T s) (kLn t T s) := fun i hi => by
  have hb := gWh_b (P := fun i => gSma (gSe t T i)) (T - s) s
  unfold kLn kEn at hi
  rw [if_neg h, if_pos h2] at hi
  exact hb.2.2 (s + i) (by omega) (by omega)
theorem kTy_1 {t : Nat → Int32} {T s : Nat} (h : kTy t T s = 1 ∨ kTy t T s = 2) : ¬ T ≤ s ∧ gSma (gSe t T s) = true ∧ kLn t T s ≤ 10 := by
  unfold kTy at h
  by_cases h1 : T ≤ s
  · rw [if_pos h1] at h; omega
  · rw [if_neg h1] at h
    by_cases h2 : gSma (gSe t T s) = true
    · refine ⟨h1, h2, ?_⟩
      by_cases h3 : kLn t T s ≤ 10
      · exact h3
      · exfalso
        have : ¬ kWd t T s < 19 := by unfold kWd; rw [kKey_10 (by omega)]; omega
        rw [if_pos h2, if_neg this, if_neg h3] at h; omega
    · exfalso
      rw [if_neg h2] at h
      by_cases h3 : gDig (gSe t T s) = true
      · rw [if_pos h3] at h
        by_cases h4 : kLn t T s ≤ 3
        · rw [if_pos h4] at h; omega
        · rw [if_neg h4] at h; omega
      · rw [if_neg h3] at h
        by_cases h4 : gSe t T s = 59
        · rw [if_pos h4] at h; omega
        · rw [if_neg h4] at h; omega
