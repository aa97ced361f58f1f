/-! ===== reading: what both have between tokens ===== -/
theorem kTy_6 {t : Nat → Int32} {T s : Nat} : kTy t T s < 6 := by
  unfold kTy
  by_cases h1 : T ≤ s
  · rw [if_pos h1]; decide
  · rw [if_neg h1]
    by_cases h2 : gSma (gSe t T s) = true
    · rw [if_pos h2]
      by_cases h3 : kWd t T s < 19
      · rw [if_pos h3]; decide
      · rw [if_neg h3]
        by_cases h4 : kLn t T s ≤ 10
        · rw [if_pos h4]; decide
        · rw [if_neg h4]; decide
    · rw [if_neg h2]
      by_cases h3 : gDig (gSe t T s) = true
      · rw [if_pos h3]
        by_cases h4 : kLn t T s ≤ 3
        · rw [if_pos h4]; decide
        · rw [if_neg h4]; decide
      · rw [if_neg h3]
        by_cases h4 : gSe t T s = 59
        · rw [if_pos h4]; decide
        · rw [if_neg h4]; decide
theorem kTy_0 {t : Nat → Int32} {T s : Nat} : kTy t T s = 0 ↔ T ≤ s := by
  constructor
  · intro h
    by_cases h1 : T ≤ s
    · exact h1
    · exfalso
      unfold kTy at h
      rw [if_neg h1] at h
      by_cases h2 : gSma (gSe t T s) = true
      · rw [if_pos h2] at h
        by_cases h3 : kWd t T s < 19
        · rw [if_pos h3] at h; omega
        · rw [if_neg h3] at h
          by_cases h4 : kLn t T s ≤ 10
          · rw [if_pos h4] at h; omega
          · rw [if_neg h4] at h; omega
      · rw [if_neg h2] at h
        by_cases h3 : gDig (gSe t T s) = true
        · rw [if_pos h3] at h
          by_cases h4 : kLn t T s ≤ 3
          · rw [if_pos h4] at h; omega
          · rw [if_neg h4] at h; omega
        · rw [if_neg h3] at h
          by_cases h4 : gSe t T s = 59
          · rw [if_pos h4] at h; omega
          · rw [if_neg h4] at h; omega
  · intro h; exact if_pos h
theorem kTy_w {t : Nat → Int32} {T s : Nat} (h : kTy t T s = 2) : kWd t T s < 19 := by
  have h1 := kTy_1 (t := t) (T := T) (s := s) (.inr h)
  unfold kTy at h
  rw [if_neg h1.1, if_pos h1.2.1] at h
  by_cases h3 : kWd t T s < 19
  · exact h3
  · rw [if_neg h3] at h
    by_cases h4 : kLn t T s ≤ 10
    · rw [if_pos h4] at h; omega
    · rw [if_neg h4] at h; omega
theorem xzTy : ∀ y < 6, ((xTy y = 2 ↔ y = 3) ∧ (xTy y = 1 ↔ y = 1 ∨ y = 2) ∧ (xTy y = 3 ↔ y = 4) ∧ (xTy y = 0 ↔ y = 0)) ∧ (zTy y = 3 ↔ y = 3) ∧ (zTy y = 2 ↔ y = 2) ∧ (zTy y = 1 ↔ y = 1) ∧ (zTy y = 4 ↔ y = 4) ∧ (zTy y = 5 ↔ y = 0) := by decide +kernel
def fX (d : Nat) (m0 m : gd_M) : Prop := m.2.2 = m0.2.2 ∧ (∀ a, (a < 10 ∨ (11 < a ∧ (a < d ∨ d + 12 < a))) → gI m a = gI m0 a) ∧ ∀ a, a ≠ 11 → a ≠ 13 → a ≠ 14 → gJ m a = gJ m0 a
def fM (p : Nat) (m0 m : gd_M) : Prop := m.2.2 = m0.2.2 ∧ (∀ a, a ≠ 698 → a ≠ 733 → a ≠ 734 → (a < p ∨ p + 15 < a) → gI m a = gI m0 a) ∧ (∀ j, (j < 6 ∨ 15 < j) → gI m 698 j = gI m0 698 j) ∧ ∀ a, a ≠ 698 → (a < p ∨ p + 15 < a) → gJ m a = gJ m0 a
/-- no fault told yet -/
def fZ (mX mM : gd_M) : Prop := gI mX 10 6 = 0 ∧ gI mX 10 7 = -1 ∧ gI mM 698 14 = 0 ∧ gI mM 698 15 = -1
def TR (c d cc dd n p : Nat) (t : Nat → Int32) (T : Nat) (m0 m1 mX mM : gd_M) : Prop := gK c d n p mX ∧ gK cc dd n p mM ∧ xT t T mX ∧ zT t T mM ∧ gR mX 10 3 = d ∧ fX d m0 mX ∧ fM p m1 mM ∧ fZ mX mM
/-- a fault of both -/
def FO (c d cc dd n p : Nat) (m0 m1 mX mM : gd_M) : Prop := gK c d n p mX ∧ gK cc dd n p mM ∧ fX d m0 mX ∧ fM p m1 mM ∧ gI mX 10 6 = gI mM 698 14 ∧ gI mX 10 7 = gI mM 698 15
def xF (m : gd_M) (f : Int32) : gd_M := wI (wI m 10 6 f) 10 7 (gI m 11 6)
def mF (m : gd_M) (f : Int32) : gd_M := wI (wI m 698 14 f) 698 15 (gI m 698 8)
def tP (t : Nat → Int32) (T e k : Nat) (mX mM : gd_M) : Prop := e ≤ T ∧ k ≤ 700 ∧ gI mX 11 3 = Int32.ofNat e ∧ gI mX 11 4 = Int32.ofNat k ∧ tkM t T (kSt t T e) k mM
def tF (t : Nat → Int32) (T s k : Nat) (mX mM : gd_M) : Prop := s ≤ T ∧ k ≤ 700 ∧ tkX t T s k mX ∧ tkM t T s k mM
section P93
variable {c d cc dd n p : Nat} {m : gd_M} {t : Nat → Int32} {T s e k : Nat} {m0 m1 mX mM mX' mM' : gd_M}
theorem TR_S (R : TR c d cc dd n p t T m0 m1 mX mM) (o : oS mX mX') : TR c d cc dd n p t T m0 m1 mX' mM := by
  obtain ⟨kx, km, xt, zt, tl, fx, fm, fz⟩ := R
  refine ⟨gK_oS kx o, km, xT_S xt o, zt, ?_, ⟨o.1.trans fx.1, fun a h => by rw [o.2.1 a (by omega)]; exact fx.2.1 a h, fun a h1 h2 h3 => by rw [o.2.2.1 a h1]; exact fx.2.2 a h1 h2 h3⟩, fm, by unfold fZ; rw [o.2.1 10 (by decide)]; exact fz⟩
  have e : gR mX' 10 3 = gR mX 10 3 := by unfold gR; rw [o.1]
  exact e.trans tl
theorem fM_Z (f : fM p m1 mM) (hp : p = 700 ∨ p = 716) (o : oZ mM mM') : fM p m1 mM' := ⟨o.1.trans f.1, fun a h1 h2 h3 h4 => by rw [o.2.1 a h1]; exact f.2.1 a h1 h2 h3 h4, fun j h => (o.2.2.2 j (by omega)).trans (f.2.2.1 j h), fun a h1 h2 => by rw [o.2.2.1 a h1]; exact f.2.2.2 a h1 h2⟩
theorem TR_Z (R : TR c d cc dd n p t T m0 m1 mX mM) (o : oZ mM mM') : TR c d cc dd n p t T m0 m1 mX mM' := by
  obtain ⟨kx, km, xt, zt, tl, fx, fm, fz⟩ := R
  exact ⟨kx, gK_oZ km o, xt, zT_Z zt o, tl, fx, fM_Z fm (gK_p1 km) o, by unfold fZ; rw [o.2.2.2 14 (by decide), o.2.2.2 15 (by decide)]; exact fz⟩
theorem TR_wX (R : TR c d cc dd n p t T m0 m1 mX mM) {a i : Nat} {x : Int32} (h : (a = 10 ∧ i < 6) ∨ (d ≤ a ∧ a ≤ d + 12)) : TR c d cc dd n p t T m0 m1 (wI mX a i x) mM := by
  obtain ⟨kx, km, xt, zt, tl, fx, fm, fz⟩ := R
  have hd := gK_d1 kx
  exact ⟨kx, km, ⟨fun j => by rw [gI_wI_a (by omega)]; exact xt.1 j, by rw [gI_wI_a (by omega)]; exact xt.2.1, xt.2.2⟩, zt, tl, ⟨fx.1, fun b hb => by rw [gI_wI_f (by omega)]; exact fx.2.1 b hb, fx.2.2⟩, fm, by unfold fZ; rw [gI_wI, if_neg (by omega), gI_wI, if_neg (by omega)]; exact fz⟩
theorem TR_wM (R : TR c d cc dd n p t T m0 m1 mX mM) {a i : Nat} {x : Int32} (h : a = 733 ∨ a = 734 ∨ (p ≤ a ∧ a ≤ p + 15)) : TR c d cc dd n p t T m0 m1 mX (wI mM a i x) := by
  obtain ⟨kx, km, xt, zt, tl, fx, fm, fz⟩ := R
  have hp := gK_p1 kx
  exact ⟨kx, km, xt, ⟨fun j => by rw [gI_wI_a (by omega)]; exact zt.1 j, by rw [gI_wI_a (by omega)]; exact zt.2⟩, tl, fx, ⟨fm.1, fun b h1 h2 h3 h4 => by rw [gI_wI_f (by omega)]; exact fm.2.1 b h1 h2 h3 h4, fun j hj => by rw [gI_wI_a (by omega)]; exact fm.2.2.1 j hj, fm.2.2.2⟩, by unfold fZ; rw [gI_wI_a (by omega), gI_wI_a (by omega)]; exact fz⟩
theorem TR_JX (R : TR c d cc dd n p t T m0 m1 mX mM) {a i : Nat} {x : Int64} (h : a = 13 ∨ a = 14) : TR c d cc dd n p t T m0 m1 (wJ mX a i x) mM := by
  obtain ⟨kx, km, xt, zt, tl, fx, fm, fz⟩ := R
  exact ⟨gK_S kx rfl fun w _ => by rw [gJ_wJ_f (by omega)], km, xt, zt, tl, ⟨fx.1, fx.2.1, fun b h1 h2 h3 => by rw [gJ_wJ_f (by omega)]; exact fx.2.2 b h1 h2 h3⟩, fm, fz⟩
theorem TR_JM (R : TR c d cc dd n p t T m0 m1 mX mM) {a i : Nat} {x : Int64} (h : p ≤ a ∧ a ≤ p + 15) : TR c d cc dd n p t T m0 m1 mX (wJ mM a i x) := by
  obtain ⟨kx, km, xt, zt, tl, fx, fm, fz⟩ := R
  have hp := gK_p1 kx
  exact ⟨kx, gK_S km rfl fun w _ => by rw [gJ_wJ_f (by omega)], xt, zt, tl, fx, ⟨fm.1, fm.2.1, fm.2.2.1, fun b h1 h2 => by rw [gJ_wJ_f (by omega)]; exact fm.2.2.2 b h1 h2⟩, fz⟩
theorem tF_wX (Q : tF t T s k mX mM) {a i : Nat} {x : Int32} (h : a ≠ 11) : tF t T s k (wI mX a i x) mM := by
  obtain ⟨q1, q2, q3, q4⟩ := Q
  refine ⟨q1, q2, ?_, q4⟩
  unfold tkX at q3 ⊢
  rw [gI_wI_f (Ne.symm h)]; exact q3
theorem tF_wM (Q : tF t T s k mX mM) {a i : Nat} {x : Int32} (h : a ≠ 698) : tF t T s k mX (wI mM a i x) := by
  obtain ⟨q1, q2, q3, q4⟩ := Q
  refine ⟨q1, q2, q3, ?_⟩
  unfold tkM at q4 ⊢
  rw [gI_wI_f (Ne.symm h)]; exact q4
theorem tF_JX (Q : tF t T s k mX mM) {a i : Nat} {x : Int64} (h : a ≠ 11) : tF t T s k (wJ mX a i x) mM := by
  obtain ⟨q1, q2, q3, q4⟩ := Q
  refine ⟨q1, q2, ?_, q4⟩
  unfold tkX at q3 ⊢
  rw [gJ_wJ_f (Ne.symm h)]; exact q3
theorem tF_JM (Q : tF t T s k mX mM) {a i : Nat} {x : Int64} (h : a ≠ 698) : tF t T s k mX (wJ mM a i x) := by
  obtain ⟨q1, q2, q3, q4⟩ := Q
  refine ⟨q1, q2, q3, ?_⟩
  unfold tkM at q4 ⊢
  rw [gJ_wJ_f (Ne.symm h)]; exact q4
theorem tP_wX (Q : tP t T e k mX mM) {a i : Nat} {x : Int32} (h : a ≠ 11) : tP t T e k (wI mX a i x) mM := by
  obtain ⟨q1, q2, q3, q4, q5⟩ := Q
  exact ⟨q1, q2, by rw [gI_wI_f (Ne.symm h)]; exact q3, by rw [gI_wI_f (Ne.symm h)]; exact q4, q5⟩
theorem tP_wM (Q : tP t T e k mX mM) {a i : Nat} {x : Int32} (h : a ≠ 698) : tP t T e k mX (wI mM a i x) := by
  obtain ⟨q1, q2, q3, q4, q5⟩ := Q
  refine ⟨q1, q2, q3, q4, ?_⟩
  unfold tkM at q5 ⊢
  rw [gI_wI_f (Ne.symm h)]; exact q5
theorem FO_mk (R : TR c d cc dd n p t T m0 m1 mX mM) (Q : tF t T s k mX mM) (f : Int32) : FO c d cc dd n p m0 m1 (xF mX f) (mF mM f) := by
  obtain ⟨kx, km, xt, zt, tl, fx, fm, fz⟩ := R
  have hp := gK_p1 kx
  have hd := gK_d1 kx
  refine ⟨kx, km, ⟨fx.1, fun b hb => by unfold xF; rw [gI_wI_f (by omega), gI_wI_f (by omega)]; exact fx.2.1 b hb, fx.2.2⟩, ⟨fm.1, fun b h1 h2 h3 h4 => by unfold mF; rw [gI_wI_f h1, gI_wI_f h1]; exact fm.2.1 b h1 h2 h3 h4, fun j hj => by unfold mF; rw [gI_wI_k (by omega), gI_wI_k (by omega)]; exact fm.2.2.1 j hj, fm.2.2.2⟩, ?_, ?_⟩
  · unfold xF mF; rw [gI_wI_k (by decide), gI_wI_s, gI_wI_k (by decide), gI_wI_s]
  · unfold xF mF; rw [gI_wI_s, gI_wI_s, Q.2.2.1.2.1, Q.2.2.2.1]
/-! judging a token -/
theorem c_st_ok (K : gK c d n p m) (h4 : gI m 11 4 = Int32.ofNat k) (hk : k ≤ 700) : gd_call 35 [.ref 10, .int 0] m = some (.int 1, m) := by
  rw [q_Re_stands]
  simp only [gK_N K, gK_8_0 K, gK_8_1 K, gK_8_2 K, gK_8_3 K, gK_8_4 K, gK_8_5 K, gK_8_6 K, gK_8_7 K, gK_8_8 K, gK_10_0 K, gK_10_1 K, gK_10_2 K, gK_11_0 K, gK_15_0 K, gK_15_1 K, gK_15_2 K, gK_15_3 K, gK_20_0 K, gK_20_1 K, gK_20_2 K, gK_20_3 K, gK_20_4 K, gK_20_5 K, gK_698_0 K, gK_698_3 K, gK_698_16 K, gK_698_17 K, gK_698_20 K, gK_698_21 K, gK_698_22 K, gK_698_23 K, gK_698_24 K, gK_698_25 K, gK_698_26 K, gK_698_27 K, gK_698_28 K, gK_698_29 K, gK_698_30 K, gK_698_31 K, gK_698_32 K, gK_698_33 K, gK_698_34 K, gK_698_35 K, gK_698_36 K, gK_698_37 K, gK_698_38 K, gK_698_39 K, gK_698_41 K, gK_698_42 K, gK_698_44 K, gK_c K, gK_d K, gK_n K, gK_p K, gok_8, gok_10, gok_11, gok_15, gok_20, gok_698, gok_699, goA_9, goA_12, goA_13, goA_14, goA_16, goA_17, goA_18, goA_19, goA_21, goA_22, goA_23, goA_24, goA_25, goA_26, goA_27, goA_28, goA_29, goA_30, goA_31, goA_732, goA_733, goA_734, goA_735, goA_736, goA_737, goA_738, goA_739, goA_740, goA_741, goA_742, goA_743, goA_744, goA_745, goA_746, goA_747, goA_748, goA_749, goA_750, goA_751, goA_752, goA_753, goA_754, goA_755, goA_756, goA_757, gN_wI, gR_wI, gL_wI, if_true, eq_self]
  rw [h4, if_neg (fun u : (700 : Int32) < Int32.ofNat k => by have := (gnla_700 (by decide) (by omega)).1 u; omega)]
theorem c_st_room (K : gK c d n p m) (h4 : gI m 11 4 = Int32.ofNat k) (hk : 700 < k) (hk2 : k < 5000) {f : Int32} (hf : f = 0 ∨ f = 5) : gd_call 35 [.ref 10, .int f] m = some (.int 0, xF m 4) := by
  have r6 : ∀ x, gI (wI m 10 6 x) 11 6 = gI m 11 6 := fun x => gI_wI_a (by decide)
  rw [q_Re_stands]
  simp only [gK_N K, gK_8_0 K, gK_8_1 K, gK_8_2 K, gK_8_3 K, gK_8_4 K, gK_8_5 K, gK_8_6 K, gK_8_7 K, gK_8_8 K, gK_10_0 K, gK_10_1 K, gK_10_2 K, gK_11_0 K, gK_15_0 K, gK_15_1 K, gK_15_2 K, gK_15_3 K, gK_20_0 K, gK_20_1 K, gK_20_2 K, gK_20_3 K, gK_20_4 K, gK_20_5 K, gK_698_0 K, gK_698_3 K, gK_698_16 K, gK_698_17 K, gK_698_20 K, gK_698_21 K, gK_698_22 K, gK_698_23 K, gK_698_24 K, gK_698_25 K, gK_698_26 K, gK_698_27 K, gK_698_28 K, gK_698_29 K, gK_698_30 K, gK_698_31 K, gK_698_32 K, gK_698_33 K, gK_698_34 K, gK_698_35 K, gK_698_36 K, gK_698_37 K, gK_698_38 K, gK_698_39 K, gK_698_41 K, gK_698_42 K, gK_698_44 K, gK_c K, gK_d K, gK_n K, gK_p K, gok_8, gok_10, gok_11, gok_15, gok_20, gok_698, gok_699, goA_9, goA_12, goA_13, goA_14, goA_16, goA_17, goA_18, goA_19, goA_21, goA_22, goA_23, goA_24, goA_25, goA_26, goA_27, goA_28, goA_29, goA_30, goA_31, goA_732, goA_733, goA_734, goA_735, goA_736, goA_737, goA_738, goA_739, goA_740, goA_741, goA_742, goA_743, goA_744, goA_745, goA_746, goA_747, goA_748, goA_749, goA_750, goA_751, goA_752, goA_753, goA_754, goA_755, goA_756, goA_757, gN_wI, gR_wI, gL_wI, if_true, eq_self, r6]
  rw [h4, if_pos (show (700 : Int32) < Int32.ofNat k from (gnla_700 (by decide) (by omega)).2 hk)]
  rcases hf with rfl | rfl <;> rfl
theorem c_st_f (K : gK c d n p m) {f : Int32} (hf : f = 1 ∨ f = 2 ∨ f = 3 ∨ f = 4) : gd_call 35 [.ref 10, .int f] m = some (.int 0, xF m f) := by
  have r6 : ∀ x, gI (wI m 10 6 x) 11 6 = gI m 11 6 := fun x => gI_wI_a (by decide)
  rw [q_Re_stands]
  simp only [gK_N K, gK_8_0 K, gK_8_1 K, gK_8_2 K, gK_8_3 K, gK_8_4 K, gK_8_5 K, gK_8_6 K, gK_8_7 K, gK_8_8 K, gK_10_0 K, gK_10_1 K, gK_10_2 K, gK_11_0 K, gK_15_0 K, gK_15_1 K, gK_15_2 K, gK_15_3 K, gK_20_0 K, gK_20_1 K, gK_20_2 K, gK_20_3 K, gK_20_4 K, gK_20_5 K, gK_698_0 K, gK_698_3 K, gK_698_16 K, gK_698_17 K, gK_698_20 K, gK_698_21 K, gK_698_22 K, gK_698_23 K, gK_698_24 K, gK_698_25 K, gK_698_26 K, gK_698_27 K, gK_698_28 K, gK_698_29 K, gK_698_30 K, gK_698_31 K, gK_698_32 K, gK_698_33 K, gK_698_34 K, gK_698_35 K, gK_698_36 K, gK_698_37 K, gK_698_38 K, gK_698_39 K, gK_698_41 K, gK_698_42 K, gK_698_44 K, gK_c K, gK_d K, gK_n K, gK_p K, gok_8, gok_10, gok_11, gok_15, gok_20, gok_698, gok_699, goA_9, goA_12, goA_13, goA_14, goA_16, goA_17, goA_18, goA_19, goA_21, goA_22, goA_23, goA_24, goA_25, goA_26, goA_27, goA_28, goA_29, goA_30, goA_31, goA_732, goA_733, goA_734, goA_735, goA_736, goA_737, goA_738, goA_739, goA_740, goA_741, goA_742, goA_743, goA_744, goA_745, goA_746, goA_747, goA_748, goA_749, goA_750, goA_751, goA_752, goA_753, goA_754, goA_755, goA_756, goA_757, gN_wI, gR_wI, gL_wI, if_true, eq_self, r6]
  by_cases h : (700 : Int32) < gI m 11 4
  · rw [if_pos h]
    rcases hf with rfl | rfl | rfl | rfl <;> rfl
  · rw [if_neg h]
    rcases hf with rfl | rfl | rfl | rfl <;> rfl
theorem c_st_5 (K : gK c d n p m) (h4 : gI m 11 4 = Int32.ofNat k) (hk : k ≤ 700) : gd_call 35 [.ref 10, .int 5] m = some (.int 0, xF m 5) := by
  have r6 : ∀ x, gI (wI m 10 6 x) 11 6 = gI m 11 6 := fun x => gI_wI_a (by decide)
  rw [q_Re_stands]
  simp only [gK_N K, gK_8_0 K, gK_8_1 K, gK_8_2 K, gK_8_3 K, gK_8_4 K, gK_8_5 K, gK_8_6 K, gK_8_7 K, gK_8_8 K, gK_10_0 K, gK_10_1 K, gK_10_2 K, gK_11_0 K, gK_15_0 K, gK_15_1 K, gK_15_2 K, gK_15_3 K, gK_20_0 K, gK_20_1 K, gK_20_2 K, gK_20_3 K, gK_20_4 K, gK_20_5 K, gK_698_0 K, gK_698_3 K, gK_698_16 K, gK_698_17 K, gK_698_20 K, gK_698_21 K, gK_698_22 K, gK_698_23 K, gK_698_24 K, gK_698_25 K, gK_698_26 K, gK_698_27 K, gK_698_28 K, gK_698_29 K, gK_698_30 K, gK_698_31 K, gK_698_32 K, gK_698_33 K, gK_698_34 K, gK_698_35 K, gK_698_36 K, gK_698_37 K, gK_698_38 K, gK_698_39 K, gK_698_41 K, gK_698_42 K, gK_698_44 K, gK_c K, gK_d K, gK_n K, gK_p K, gok_8, gok_10, gok_11, gok_15, gok_20, gok_698, gok_699, goA_9, goA_12, goA_13, goA_14, goA_16, goA_17, goA_18, goA_19, goA_21, goA_22, goA_23, goA_24, goA_25, goA_26, goA_27, goA_28, goA_29, goA_30, goA_31, goA_732, goA_733, goA_734, goA_735, goA_736, goA_737, goA_738, goA_739, goA_740, goA_741, goA_742, goA_743, goA_744, goA_745, goA_746, goA_747, goA_748, goA_749, goA_750, goA_751, goA_752, goA_753, goA_754, goA_755, goA_756, goA_757, gN_wI, gR_wI, gL_wI, if_true, eq_self, r6]
  rw [h4, if_neg (fun u : (700 : Int32) < Int32.ofNat k => by have := (gnla_700 (by decide) (by omega)).1 u; omega)]
  rfl
theorem c_nd1 {f : Int32} : gd_call 68 [.ref 698, .int 1, .int f] m = some (.null, m) := by
  rw [q_Mo_need, if_neg (by decide)]
theorem c_nd0 (K : gK c d n p m) {f : Int32} : gd_call 68 [.ref 698, .int 0, .int f] m = some (.retAddr 0, mF m f) := by
  have r8 : ∀ x, gI (wI m 698 14 x) 698 8 = gI m 698 8 := fun x => gI_wI_k (by decide)
  rw [q_Mo_need, if_pos rfl]
  simp only [gK_N K, gK_8_0 K, gK_8_1 K, gK_8_2 K, gK_8_3 K, gK_8_4 K, gK_8_5 K, gK_8_6 K, gK_8_7 K, gK_8_8 K, gK_10_0 K, gK_10_1 K, gK_10_2 K, gK_11_0 K, gK_15_0 K, gK_15_1 K, gK_15_2 K, gK_15_3 K, gK_20_0 K, gK_20_1 K, gK_20_2 K, gK_20_3 K, gK_20_4 K, gK_20_5 K, gK_698_0 K, gK_698_3 K, gK_698_16 K, gK_698_17 K, gK_698_20 K, gK_698_21 K, gK_698_22 K, gK_698_23 K, gK_698_24 K, gK_698_25 K, gK_698_26 K, gK_698_27 K, gK_698_28 K, gK_698_29 K, gK_698_30 K, gK_698_31 K, gK_698_32 K, gK_698_33 K, gK_698_34 K, gK_698_35 K, gK_698_36 K, gK_698_37 K, gK_698_38 K, gK_698_39 K, gK_698_41 K, gK_698_42 K, gK_698_44 K, gK_c K, gK_d K, gK_n K, gK_p K, gok_8, gok_10, gok_11, gok_15, gok_20, gok_698, gok_699, goA_9, goA_12, goA_13, goA_14, goA_16, goA_17, goA_18, goA_19, goA_21, goA_22, goA_23, goA_24, goA_25, goA_26, goA_27, goA_28, goA_29, goA_30, goA_31, goA_732, goA_733, goA_734, goA_735, goA_736, goA_737, goA_738, goA_739, goA_740, goA_741, goA_742, goA_743, goA_744, goA_745, goA_746, goA_747, goA_748, goA_749, goA_750, goA_751, goA_752, goA_753, goA_754, goA_755, goA_756, goA_757, gN_wI, gR_wI, gL_wI, if_true, eq_self, r8]
  rfl
theorem c_nx_room (K : gK c d n p m) (h : gI m 698 11 = Int32.ofNat k) (hk : 700 < k) (hk2 : k < 5000) : gd_call 69 [.ref 698] m = some (.retAddr 0, mF m 4) := by
  rw [q_Mo_next]
  simp only [gK_N K, gK_8_0 K, gK_8_1 K, gK_8_2 K, gK_8_3 K, gK_8_4 K, gK_8_5 K, gK_8_6 K, gK_8_7 K, gK_8_8 K, gK_10_0 K, gK_10_1 K, gK_10_2 K, gK_11_0 K, gK_15_0 K, gK_15_1 K, gK_15_2 K, gK_15_3 K, gK_20_0 K, gK_20_1 K, gK_20_2 K, gK_20_3 K, gK_20_4 K, gK_20_5 K, gK_698_0 K, gK_698_3 K, gK_698_16 K, gK_698_17 K, gK_698_20 K, gK_698_21 K, gK_698_22 K, gK_698_23 K, gK_698_24 K, gK_698_25 K, gK_698_26 K, gK_698_27 K, gK_698_28 K, gK_698_29 K, gK_698_30 K, gK_698_31 K, gK_698_32 K, gK_698_33 K, gK_698_34 K, gK_698_35 K, gK_698_36 K, gK_698_37 K, gK_698_38 K, gK_698_39 K, gK_698_41 K, gK_698_42 K, gK_698_44 K, gK_c K, gK_d K, gK_n K, gK_p K, gok_8, gok_10, gok_11, gok_15, gok_20, gok_698, gok_699, goA_9, goA_12, goA_13, goA_14, goA_16, goA_17, goA_18, goA_19, goA_21, goA_22, goA_23, goA_24, goA_25, goA_26, goA_27, goA_28, goA_29, goA_30, goA_31, goA_732, goA_733, goA_734, goA_735, goA_736, goA_737, goA_738, goA_739, goA_740, goA_741, goA_742, goA_743, goA_744, goA_745, goA_746, goA_747, goA_748, goA_749, goA_750, goA_751, goA_752, goA_753, goA_754, goA_755, goA_756, goA_757, gN_wI, gR_wI, gL_wI, if_true, eq_self]
  rw [h, if_pos (show (700 : Int32) < Int32.ofNat k from (gnla_700 (by decide) (by omega)).2 hk), c_nd0 K]
  rfl
theorem c_nx_ok (hB : ∀ i, isB (t i)) (hT : T ≤ 3000) (K : gK c d n p m) (Z : zT t T m) (H : tkM t T s k m) (hs : ¬ T ≤ s) (hk : k + 1 ≤ 700) : ∃ m', gd_call 69 [.ref 698] m = some (.null, m') ∧ oZ m m' ∧ tkM t T (kSt t T (kEn t T s)) (k + 1) m' := by
  obtain ⟨h8, h9, h11, -⟩ := H
  rw [if_neg hs] at h11
  obtain ⟨m', a1, a2, a3⟩ := c_scan hB hT (kEn_b (t := t) (show s ≤ T by omega)).2 K Z h9 h11
  refine ⟨m', ?_, a2, a3⟩
  rw [q_Mo_next]
  simp only [gK_N K, gK_8_0 K, gK_8_1 K, gK_8_2 K, gK_8_3 K, gK_8_4 K, gK_8_5 K, gK_8_6 K, gK_8_7 K, gK_8_8 K, gK_10_0 K, gK_10_1 K, gK_10_2 K, gK_11_0 K, gK_15_0 K, gK_15_1 K, gK_15_2 K, gK_15_3 K, gK_20_0 K, gK_20_1 K, gK_20_2 K, gK_20_3 K, gK_20_4 K, gK_20_5 K, gK_698_0 K, gK_698_3 K, gK_698_16 K, gK_698_17 K, gK_698_20 K, gK_698_21 K, gK_698_22 K, gK_698_23 K, gK_698_24 K, gK_698_25 K, gK_698_26 K, gK_698_27 K, gK_698_28 K, gK_698_29 K, gK_698_30 K, gK_698_31 K, gK_698_32 K, gK_698_33 K, gK_698_34 K, gK_698_35 K, gK_698_36 K, gK_698_37 K, gK_698_38 K, gK_698_39 K, gK_698_41 K, gK_698_42 K, gK_698_44 K, gK_c K, gK_d K, gK_n K, gK_p K, gok_8, gok_10, gok_11, gok_15, gok_20, gok_698, gok_699, goA_9, goA_12, goA_13, goA_14, goA_16, goA_17, goA_18, goA_19, goA_21, goA_22, goA_23, goA_24, goA_25, goA_26, goA_27, goA_28, goA_29, goA_30, goA_31, goA_732, goA_733, goA_734, goA_735, goA_736, goA_737, goA_738, goA_739, goA_740, goA_741, goA_742, goA_743, goA_744, goA_745, goA_746, goA_747, goA_748, goA_749, goA_750, goA_751, goA_752, goA_753, goA_754, goA_755, goA_756, goA_757, gN_wI, gR_wI, gL_wI, if_true, eq_self]
  rw [h11, if_neg (fun u : (700 : Int32) < Int32.ofNat (k + 1) => by have := (gnla_700 (by decide) (by omega)).1 u; omega), c_nd1]
  simp only [gK_N K, gK_8_0 K, gK_8_1 K, gK_8_2 K, gK_8_3 K, gK_8_4 K, gK_8_5 K, gK_8_6 K, gK_8_7 K, gK_8_8 K, gK_10_0 K, gK_10_1 K, gK_10_2 K, gK_11_0 K, gK_15_0 K, gK_15_1 K, gK_15_2 K, gK_15_3 K, gK_20_0 K, gK_20_1 K, gK_20_2 K, gK_20_3 K, gK_20_4 K, gK_20_5 K, gK_698_0 K, gK_698_3 K, gK_698_16 K, gK_698_17 K, gK_698_20 K, gK_698_21 K, gK_698_22 K, gK_698_23 K, gK_698_24 K, gK_698_25 K, gK_698_26 K, gK_698_27 K, gK_698_28 K, gK_698_29 K, gK_698_30 K, gK_698_31 K, gK_698_32 K, gK_698_33 K, gK_698_34 K, gK_698_35 K, gK_698_36 K, gK_698_37 K, gK_698_38 K, gK_698_39 K, gK_698_41 K, gK_698_42 K, gK_698_44 K, gK_c K, gK_d K, gK_n K, gK_p K, gok_8, gok_10, gok_11, gok_15, gok_20, gok_698, gok_699, goA_9, goA_12, goA_13, goA_14, goA_16, goA_17, goA_18, goA_19, goA_21, goA_22, goA_23, goA_24, goA_25, goA_26, goA_27, goA_28, goA_29, goA_30, goA_31, goA_732, goA_733, goA_734, goA_735, goA_736, goA_737, goA_738, goA_739, goA_740, goA_741, goA_742, goA_743, goA_744, goA_745, goA_746, goA_747, goA_748, goA_749, goA_750, goA_751, goA_752, goA_753, goA_754, goA_755, goA_756, goA_757, gN_wI, gR_wI, gL_wI, if_true, eq_self, Option.bind_some, gd_kV_v]
  rw [a1]
  rfl
/-- the class fetches a token -/
theorem fetch (hB : ∀ i, isB (t i)) (hT : T ≤ 3000) (R : TR c d cc dd n p t T m0 m1 mX mM) (Q : tP t T e k mX mM) : ∃ mX', gd_call 32 [.ref 11] mX = some (.null, mX') ∧ oS mX mX' ∧ tF t T (kSt t T e) k mX' mM := by
  obtain ⟨q1, q2, q3, q4, q5⟩ := Q
  obtain ⟨mX', a1, a2, a3⟩ := c_next hB hT (show k ≤ 1000 by omega) (T - e) e mX (by omega) R.1 R.2.2.1 q3 q4
  exact ⟨mX', a1, a2, (kSt_b q1).2, q2, a3, q5⟩
/-- a token is good: both go on, or it is the 701st -/
theorem pass (hB : ∀ i, isB (t i)) (hT : T ≤ 3000) (R : TR c d cc dd n p t T m0 m1 mX mM) (Q : tF t T s k mX mM) (hs : ¬ T ≤ s) : (k + 1 ≤ 700 ∧ gd_call 35 [.ref 10, .int 0] mX = some (.int 1, mX) ∧ ∃ mM', gd_call 69 [.ref 698] mM = some (.null, mM') ∧ oZ mM mM' ∧ tP t T (kEn t T s) (k + 1) mX mM') ∨ (k = 700 ∧ gd_call 35 [.ref 10, .int 0] mX = some (.int 0, xF mX 4) ∧ gd_call 69 [.ref 698] mM = some (.retAddr 0, mF mM 4) ∧ FO c d cc dd n p m0 m1 (xF mX 4) (mF mM 4)) := by
  obtain ⟨q1, q2, q3, q4⟩ := id Q
  have h4 : gI mX 11 4 = Int32.ofNat (k + 1) := by rw [q3.2.2.1, if_neg hs]
  by_cases hk : k + 1 ≤ 700
  · obtain ⟨mM', a1, a2, a3⟩ := c_nx_ok hB hT R.2.1 R.2.2.2.1 q4 hs hk
    exact .inl ⟨hk, c_st_ok R.1 h4 hk, mM', a1, a2, (kEn_b q1).2, hk, q3.1, h4, a3⟩
  · have h11 : gI mM 698 11 = Int32.ofNat (k + 1) := by rw [q4.2.2.1, if_neg hs]
    exact .inr ⟨by omega, c_st_room R.1 h4 (by omega) (by omega) (.inl rfl), c_nx_room R.2.1 h11 (by omega) (by omega), FO_mk R Q 4⟩
theorem gd_bo0 : gd_bo 0 = true := by decide
theorem gd_bo1 : gd_bo 1 = true := by decide
/-- a number -/
theorem c_fNum (K : gK c d n p m) (H : tkX t T s k m) (lo hi : Int32) : gd_call 39 [.ref 10, .int lo, .int hi] m = some (.int (if kTy t T s = 3 then (if kVa t T s < lo then 3 else if hi < kVa t T s then 3 else 0) else 1), m) := by
  obtain ⟨-, -, -, h5, -, h7, -⟩ := H
  have x2 := (xzTy _ (kTy_6 (t := t) (T := T) (s := s))).1.1
  rw [q_Re_faultOfNumber]
  simp only [gK_N K, gK_8_0 K, gK_8_1 K, gK_8_2 K, gK_8_3 K, gK_8_4 K, gK_8_5 K, gK_8_6 K, gK_8_7 K, gK_8_8 K, gK_10_0 K, gK_10_1 K, gK_10_2 K, gK_11_0 K, gK_15_0 K, gK_15_1 K, gK_15_2 K, gK_15_3 K, gK_20_0 K, gK_20_1 K, gK_20_2 K, gK_20_3 K, gK_20_4 K, gK_20_5 K, gK_698_0 K, gK_698_3 K, gK_698_16 K, gK_698_17 K, gK_698_20 K, gK_698_21 K, gK_698_22 K, gK_698_23 K, gK_698_24 K, gK_698_25 K, gK_698_26 K, gK_698_27 K, gK_698_28 K, gK_698_29 K, gK_698_30 K, gK_698_31 K, gK_698_32 K, gK_698_33 K, gK_698_34 K, gK_698_35 K, gK_698_36 K, gK_698_37 K, gK_698_38 K, gK_698_39 K, gK_698_41 K, gK_698_42 K, gK_698_44 K, gK_c K, gK_d K, gK_n K, gK_p K, gok_8, gok_10, gok_11, gok_15, gok_20, gok_698, gok_699, goA_9, goA_12, goA_13, goA_14, goA_16, goA_17, goA_18, goA_19, goA_21, goA_22, goA_23, goA_24, goA_25, goA_26, goA_27, goA_28, goA_29, goA_30, goA_31, goA_732, goA_733, goA_734, goA_735, goA_736, goA_737, goA_738, goA_739, goA_740, goA_741, goA_742, goA_743, goA_744, goA_745, goA_746, goA_747, goA_748, goA_749, goA_750, goA_751, goA_752, goA_753, goA_754, goA_755, goA_756, goA_757, gN_wI, gR_wI, gL_wI, if_true, eq_self]
  rw [h5]
  by_cases h : kTy t T s = 3
  · rw [if_pos (x2.2 h), if_pos h, h7 h]
    by_cases g1 : kVa t T s < lo
    · rw [if_pos g1, if_pos g1]
    · rw [if_neg g1, if_neg g1]
      by_cases g2 : hi < kVa t T s
      · rw [if_pos g2, if_pos g2]
      · rw [if_neg g2, if_neg g2]
  · rw [if_neg (fun u => h (x2.1 u)), if_neg h]
theorem c_inG {x lo hi : Int32} : gd_call 71 [.int x, .int lo, .int hi] m = some (.int (if x < lo then 0 else if hi < x then 0 else 1), m) := by
  rw [q_Mo_in]
  by_cases g1 : x < lo
  · rw [if_pos g1, if_pos g1]
  · rw [if_neg g1, if_neg g1]
    by_cases g2 : hi < x
    · rw [if_pos g2, if_pos g2]
    · rw [if_neg g2, if_neg g2]
theorem J_num (hB : ∀ i, isB (t i)) (hT : T ≤ 3000) (R : TR c d cc dd n p t T m0 m1 mX mM) (Q : tP t T e k mX mM) (lo hi : Int32) : ∃ z mX', gd_call 40 [.ref 10, .int lo, .int hi] mX = some (.int z, mX') ∧ ((z = 1 ∧ oS mX mX' ∧ ∃ v mM', gd_call 72 [.ref 698, .int lo, .int hi] mM = some (.int v, mM') ∧ oZ mM mM' ∧ ¬ v < lo ∧ ¬ hi < v ∧ gI mX' 11 7 = v ∧ tP t T (kEn t T (kSt t T e)) (k + 1) mX' mM') ∨ (z = 0 ∧ ∃ mM', gd_call 72 [.ref 698, .int lo, .int hi] mM = some (.retAddr 0, mM') ∧ FO c d cc dd n p m0 m1 mX' mM')) := by
  obtain ⟨mX1, a1, a2, a3⟩ := fetch hB hT R Q
  have R1 := TR_S R a2
  have Kx := R1.1
  have Km := R1.2.1
  obtain ⟨q1, q2, q3, q4⟩ := id a3
  have z3 := (xzTy _ (kTy_6 (t := t) (T := T) (s := kSt t T e))).2.1
  have hX : gd_call 40 [.ref 10, .int lo, .int hi] mX = (gd_call 35 [.ref 10, .int (if kTy t T (kSt t T e) = 3 then (if kVa t T (kSt t T e) < lo then 3 else if hi < kVa t T (kSt t T e) then 3 else 0) else 1)] mX1).bind (gd_kI fun z12 m10 => if gd_bo z12 = true then some (.int z12, m10) else none) := by
    rw [q_Re_numberIn]
    simp only [gK_N R.1, gK_8_0 R.1, gK_8_1 R.1, gK_8_2 R.1, gK_8_3 R.1, gK_8_4 R.1, gK_8_5 R.1, gK_8_6 R.1, gK_8_7 R.1, gK_8_8 R.1, gK_10_0 R.1, gK_10_1 R.1, gK_10_2 R.1, gK_11_0 R.1, gK_15_0 R.1, gK_15_1 R.1, gK_15_2 R.1, gK_15_3 R.1, gK_20_0 R.1, gK_20_1 R.1, gK_20_2 R.1, gK_20_3 R.1, gK_20_4 R.1, gK_20_5 R.1, gK_698_0 R.1, gK_698_3 R.1, gK_698_16 R.1, gK_698_17 R.1, gK_698_20 R.1, gK_698_21 R.1, gK_698_22 R.1, gK_698_23 R.1, gK_698_24 R.1, gK_698_25 R.1, gK_698_26 R.1, gK_698_27 R.1, gK_698_28 R.1, gK_698_29 R.1, gK_698_30 R.1, gK_698_31 R.1, gK_698_32 R.1, gK_698_33 R.1, gK_698_34 R.1, gK_698_35 R.1, gK_698_36 R.1, gK_698_37 R.1, gK_698_38 R.1, gK_698_39 R.1, gK_698_41 R.1, gK_698_42 R.1, gK_698_44 R.1, gK_c R.1, gK_d R.1, gK_n R.1, gK_p R.1, gok_8, gok_10, gok_11, gok_15, gok_20, gok_698, gok_699, goA_9, goA_12, goA_13, goA_14, goA_16, goA_17, goA_18, goA_19, goA_21, goA_22, goA_23, goA_24, goA_25, goA_26, goA_27, goA_28, goA_29, goA_30, goA_31, goA_732, goA_733, goA_734, goA_735, goA_736, goA_737, goA_738, goA_739, goA_740, goA_741, goA_742, goA_743, goA_744, goA_745, goA_746, goA_747, goA_748, goA_749, goA_750, goA_751, goA_752, goA_753, goA_754, goA_755, goA_756, goA_757, gN_wI, gR_wI, gL_wI, if_true, eq_self]
    rw [a1]
    simp only [gK_N Kx, gK_8_0 Kx, gK_8_1 Kx, gK_8_2 Kx, gK_8_3 Kx, gK_8_4 Kx, gK_8_5 Kx, gK_8_6 Kx, gK_8_7 Kx, gK_8_8 Kx, gK_10_0 Kx, gK_10_1 Kx, gK_10_2 Kx, gK_11_0 Kx, gK_15_0 Kx, gK_15_1 Kx, gK_15_2 Kx, gK_15_3 Kx, gK_20_0 Kx, gK_20_1 Kx, gK_20_2 Kx, gK_20_3 Kx, gK_20_4 Kx, gK_20_5 Kx, gK_698_0 Kx, gK_698_3 Kx, gK_698_16 Kx, gK_698_17 Kx, gK_698_20 Kx, gK_698_21 Kx, gK_698_22 Kx, gK_698_23 Kx, gK_698_24 Kx, gK_698_25 Kx, gK_698_26 Kx, gK_698_27 Kx, gK_698_28 Kx, gK_698_29 Kx, gK_698_30 Kx, gK_698_31 Kx, gK_698_32 Kx, gK_698_33 Kx, gK_698_34 Kx, gK_698_35 Kx, gK_698_36 Kx, gK_698_37 Kx, gK_698_38 Kx, gK_698_39 Kx, gK_698_41 Kx, gK_698_42 Kx, gK_698_44 Kx, gK_c Kx, gK_d Kx, gK_n Kx, gK_p Kx, gok_8, gok_10, gok_11, gok_15, gok_20, gok_698, gok_699, goA_9, goA_12, goA_13, goA_14, goA_16, goA_17, goA_18, goA_19, goA_21, goA_22, goA_23, goA_24, goA_25, goA_26, goA_27, goA_28, goA_29, goA_30, goA_31, goA_732, goA_733, goA_734, goA_735, goA_736, goA_737, goA_738, goA_739, goA_740, goA_741, goA_742, goA_743, goA_744, goA_745, goA_746, goA_747, goA_748, goA_749, goA_750, goA_751, goA_752, goA_753, goA_754, goA_755, goA_756, goA_757, gN_wI, gR_wI, gL_wI, if_true, eq_self, Option.bind_some, gd_kV_v]
    rw [c_fNum Kx q3]
    simp only [gK_N Kx, gK_8_0 Kx, gK_8_1 Kx, gK_8_2 Kx, gK_8_3 Kx, gK_8_4 Kx, gK_8_5 Kx, gK_8_6 Kx, gK_8_7 Kx, gK_8_8 Kx, gK_10_0 Kx, gK_10_1 Kx, gK_10_2 Kx, gK_11_0 Kx, gK_15_0 Kx, gK_15_1 Kx, gK_15_2 Kx, gK_15_3 Kx, gK_20_0 Kx, gK_20_1 Kx, gK_20_2 Kx, gK_20_3 Kx, gK_20_4 Kx, gK_20_5 Kx, gK_698_0 Kx, gK_698_3 Kx, gK_698_16 Kx, gK_698_17 Kx, gK_698_20 Kx, gK_698_21 Kx, gK_698_22 Kx, gK_698_23 Kx, gK_698_24 Kx, gK_698_25 Kx, gK_698_26 Kx, gK_698_27 Kx, gK_698_28 Kx, gK_698_29 Kx, gK_698_30 Kx, gK_698_31 Kx, gK_698_32 Kx, gK_698_33 Kx, gK_698_34 Kx, gK_698_35 Kx, gK_698_36 Kx, gK_698_37 Kx, gK_698_38 Kx, gK_698_39 Kx, gK_698_41 Kx, gK_698_42 Kx, gK_698_44 Kx, gK_c Kx, gK_d Kx, gK_n Kx, gK_p Kx, gok_8, gok_10, gok_11, gok_15, gok_20, gok_698, gok_699, goA_9, goA_12, goA_13, goA_14, goA_16, goA_17, goA_18, goA_19, goA_21, goA_22, goA_23, goA_24, goA_25, goA_26, goA_27, goA_28, goA_29, goA_30, goA_31, goA_732, goA_733, goA_734, goA_735, goA_736, goA_737, goA_738, goA_739, goA_740, goA_741, goA_742, goA_743, goA_744, goA_745, goA_746, goA_747, goA_748, goA_749, goA_750, goA_751, goA_752, goA_753, goA_754, goA_755, goA_756, goA_757, gN_wI, gR_wI, gL_wI, if_true, eq_self, Option.bind_some, gd_kI_i]
  rw [hX, q_Mo_number]
  simp only [gK_N Km, gK_8_0 Km, gK_8_1 Km, gK_8_2 Km, gK_8_3 Km, gK_8_4 Km, gK_8_5 Km, gK_8_6 Km, gK_8_7 Km, gK_8_8 Km, gK_10_0 Km, gK_10_1 Km, gK_10_2 Km, gK_11_0 Km, gK_15_0 Km, gK_15_1 Km, gK_15_2 Km, gK_15_3 Km, gK_20_0 Km, gK_20_1 Km, gK_20_2 Km, gK_20_3 Km, gK_20_4 Km, gK_20_5 Km, gK_698_0 Km, gK_698_3 Km, gK_698_16 Km, gK_698_17 Km, gK_698_20 Km, gK_698_21 Km, gK_698_22 Km, gK_698_23 Km, gK_698_24 Km, gK_698_25 Km, gK_698_26 Km, gK_698_27 Km, gK_698_28 Km, gK_698_29 Km, gK_698_30 Km, gK_698_31 Km, gK_698_32 Km, gK_698_33 Km, gK_698_34 Km, gK_698_35 Km, gK_698_36 Km, gK_698_37 Km, gK_698_38 Km, gK_698_39 Km, gK_698_41 Km, gK_698_42 Km, gK_698_44 Km, gK_c Km, gK_d Km, gK_n Km, gK_p Km, gok_8, gok_10, gok_11, gok_15, gok_20, gok_698, gok_699, goA_9, goA_12, goA_13, goA_14, goA_16, goA_17, goA_18, goA_19, goA_21, goA_22, goA_23, goA_24, goA_25, goA_26, goA_27, goA_28, goA_29, goA_30, goA_31, goA_732, goA_733, goA_734, goA_735, goA_736, goA_737, goA_738, goA_739, goA_740, goA_741, goA_742, goA_743, goA_744, goA_745, goA_746, goA_747, goA_748, goA_749, goA_750, goA_751, goA_752, goA_753, goA_754, goA_755, goA_756, goA_757, gN_wI, gR_wI, gL_wI, if_true, eq_self]
  rw [q4.2.2.2.1]
  by_cases h : kTy t T (kSt t T e) = 3
  · have hne : ¬ T ≤ kSt t T e := fun u => by rw [kTy_0.2 u] at h; omega
    rw [if_pos h, if_pos (z3.2 h), c_nd1]
    simp only [gK_N Km, gK_8_0 Km, gK_8_1 Km, gK_8_2 Km, gK_8_3 Km, gK_8_4 Km, gK_8_5 Km, gK_8_6 Km, gK_8_7 Km, gK_8_8 Km, gK_10_0 Km, gK_10_1 Km, gK_10_2 Km, gK_11_0 Km, gK_15_0 Km, gK_15_1 Km, gK_15_2 Km, gK_15_3 Km, gK_20_0 Km, gK_20_1 Km, gK_20_2 Km, gK_20_3 Km, gK_20_4 Km, gK_20_5 Km, gK_698_0 Km, gK_698_3 Km, gK_698_16 Km, gK_698_17 Km, gK_698_20 Km, gK_698_21 Km, gK_698_22 Km, gK_698_23 Km, gK_698_24 Km, gK_698_25 Km, gK_698_26 Km, gK_698_27 Km, gK_698_28 Km, gK_698_29 Km, gK_698_30 Km, gK_698_31 Km, gK_698_32 Km, gK_698_33 Km, gK_698_34 Km, gK_698_35 Km, gK_698_36 Km, gK_698_37 Km, gK_698_38 Km, gK_698_39 Km, gK_698_41 Km, gK_698_42 Km, gK_698_44 Km, gK_c Km, gK_d Km, gK_n Km, gK_p Km, gok_8, gok_10, gok_11, gok_15, gok_20, gok_698, gok_699, goA_9, goA_12, goA_13, goA_14, goA_16, goA_17, goA_18, goA_19, goA_21, goA_22, goA_23, goA_24, goA_25, goA_26, goA_27, goA_28, goA_29, goA_30, goA_31, goA_732, goA_733, goA_734, goA_735, goA_736, goA_737, goA_738, goA_739, goA_740, goA_741, goA_742, goA_743, goA_744, goA_745, goA_746, goA_747, goA_748, goA_749, goA_750, goA_751, goA_752, goA_753, goA_754, goA_755, goA_756, goA_757, gN_wI, gR_wI, gL_wI, if_true, eq_self, Option.bind_some, gd_kV_v]
    rw [q4.2.2.2.2.2.1 h, c_inG]
    simp only [gK_N Km, gK_8_0 Km, gK_8_1 Km, gK_8_2 Km, gK_8_3 Km, gK_8_4 Km, gK_8_5 Km, gK_8_6 Km, gK_8_7 Km, gK_8_8 Km, gK_10_0 Km, gK_10_1 Km, gK_10_2 Km, gK_11_0 Km, gK_15_0 Km, gK_15_1 Km, gK_15_2 Km, gK_15_3 Km, gK_20_0 Km, gK_20_1 Km, gK_20_2 Km, gK_20_3 Km, gK_20_4 Km, gK_20_5 Km, gK_698_0 Km, gK_698_3 Km, gK_698_16 Km, gK_698_17 Km, gK_698_20 Km, gK_698_21 Km, gK_698_22 Km, gK_698_23 Km, gK_698_24 Km, gK_698_25 Km, gK_698_26 Km, gK_698_27 Km, gK_698_28 Km, gK_698_29 Km, gK_698_30 Km, gK_698_31 Km, gK_698_32 Km, gK_698_33 Km, gK_698_34 Km, gK_698_35 Km, gK_698_36 Km, gK_698_37 Km, gK_698_38 Km, gK_698_39 Km, gK_698_41 Km, gK_698_42 Km, gK_698_44 Km, gK_c Km, gK_d Km, gK_n Km, gK_p Km, gok_8, gok_10, gok_11, gok_15, gok_20, gok_698, gok_699, goA_9, goA_12, goA_13, goA_14, goA_16, goA_17, goA_18, goA_19, goA_21, goA_22, goA_23, goA_24, goA_25, goA_26, goA_27, goA_28, goA_29, goA_30, goA_31, goA_732, goA_733, goA_734, goA_735, goA_736, goA_737, goA_738, goA_739, goA_740, goA_741, goA_742, goA_743, goA_744, goA_745, goA_746, goA_747, goA_748, goA_749, goA_750, goA_751, goA_752, goA_753, goA_754, goA_755, goA_756, goA_757, gN_wI, gR_wI, gL_wI, if_true, eq_self, Option.bind_some, gd_k0I_i]
    have bad : ∀ (P : Prop), (kVa t T (kSt t T e) < lo ∨ hi < kVa t T (kSt t T e)) → (if kVa t T (kSt t T e) < lo then (3 : Int32) else if hi < kVa t T (kSt t T e) then 3 else 0) = 3 ∧ (if kVa t T (kSt t T e) < lo then (0 : Int32) else if hi < kVa t T (kSt t T e) then 0 else 1) = 0 := fun _ u => by
      by_cases g1 : kVa t T (kSt t T e) < lo
      · rw [if_pos g1, if_pos g1]; exact ⟨rfl, rfl⟩
      · rw [if_neg g1, if_neg g1, if_pos (u.resolve_left g1), if_pos (u.resolve_left g1)]; exact ⟨rfl, rfl⟩
    by_cases g : kVa t T (kSt t T e) < lo ∨ hi < kVa t T (kSt t T e)
    · obtain ⟨b1, b2⟩ := bad True g
      rw [b1, b2, c_st_f Kx (.inr (.inr (.inl rfl))), c_nd0 Km]
      exact ⟨0, _, rfl, .inr ⟨rfl, _, rfl, FO_mk R1 a3 3⟩⟩
    · have g1 : ¬ kVa t T (kSt t T e) < lo := fun u => g (.inl u)
      have g2 : ¬ hi < kVa t T (kSt t T e) := fun u => g (.inr u)
      rw [if_neg g1, if_neg g2, if_neg g1, if_neg g2, c_nd1]
      simp only [gK_N Km, gK_8_0 Km, gK_8_1 Km, gK_8_2 Km, gK_8_3 Km, gK_8_4 Km, gK_8_5 Km, gK_8_6 Km, gK_8_7 Km, gK_8_8 Km, gK_10_0 Km, gK_10_1 Km, gK_10_2 Km, gK_11_0 Km, gK_15_0 Km, gK_15_1 Km, gK_15_2 Km, gK_15_3 Km, gK_20_0 Km, gK_20_1 Km, gK_20_2 Km, gK_20_3 Km, gK_20_4 Km, gK_20_5 Km, gK_698_0 Km, gK_698_3 Km, gK_698_16 Km, gK_698_17 Km, gK_698_20 Km, gK_698_21 Km, gK_698_22 Km, gK_698_23 Km, gK_698_24 Km, gK_698_25 Km, gK_698_26 Km, gK_698_27 Km, gK_698_28 Km, gK_698_29 Km, gK_698_30 Km, gK_698_31 Km, gK_698_32 Km, gK_698_33 Km, gK_698_34 Km, gK_698_35 Km, gK_698_36 Km, gK_698_37 Km, gK_698_38 Km, gK_698_39 Km, gK_698_41 Km, gK_698_42 Km, gK_698_44 Km, gK_c Km, gK_d Km, gK_n Km, gK_p Km, gok_8, gok_10, gok_11, gok_15, gok_20, gok_698, gok_699, goA_9, goA_12, goA_13, goA_14, goA_16, goA_17, goA_18, goA_19, goA_21, goA_22, goA_23, goA_24, goA_25, goA_26, goA_27, goA_28, goA_29, goA_30, goA_31, goA_732, goA_733, goA_734, goA_735, goA_736, goA_737, goA_738, goA_739, goA_740, goA_741, goA_742, goA_743, goA_744, goA_745, goA_746, goA_747, goA_748, goA_749, goA_750, goA_751, goA_752, goA_753, goA_754, goA_755, goA_756, goA_757, gN_wI, gR_wI, gL_wI, if_true, eq_self, Option.bind_some, gd_kV_v]
      rcases pass hB hT R1 a3 hne with ⟨hk, s1, mM', s2, s3, s4⟩ | ⟨hk, s1, s2, s3⟩
      · rw [s1, s2, q4.2.2.2.2.2.1 h]
        exact ⟨1, mX1, rfl, .inl ⟨rfl, a2, _, mM', rfl, s3, g1, g2, q3.2.2.2.2.2.1 h, s4⟩⟩
      · rw [s1, s2]
        exact ⟨0, _, rfl, .inr ⟨rfl, _, rfl, s3⟩⟩
  · rw [if_neg h, if_neg (fun u => h (z3.1 u)), c_st_f Kx (.inl rfl), c_nd0 Km]
    exact ⟨0, _, rfl, .inr ⟨rfl, _, rfl, FO_mk R1 a3 1⟩⟩
/-- is the class's word this one -/
theorem tkX_w {w : Nat} (hw : w < 19) (H : tkX t T s k m) : gI m 11 9 = Int32.ofNat w ↔ kTy t T s = 2 ∧ kWd t T s = w := by
  rw [H.2.2.2.2.1]
  by_cases h : kTy t T s = 2
  · have := kTy_w h
    rw [if_pos h, gn_eq (by omega) (by omega)]
    exact ⟨fun u => ⟨h, u⟩, fun u => u.2⟩
  · rw [if_neg h]
    constructor
    · intro u
      have := congrArg Int32.toInt u
      rw [gn_toInt (by omega)] at this
      have e1 : ((-1 : Int32)).toInt = -1 := rfl
      omega
    · intro u; exact absurd u.1 h
theorem c_isWord (K : gK c d n p m) {w : Nat} (hw : w < 19) (H : tkM t T s k m) : gd_call 73 [.ref 698, .int (Int32.ofNat w)] m = some (.int (gB (decide (kTy t T s = 2) && decide (kWd t T s = w))), m) := by
  have z2 := (xzTy _ (kTy_6 (t := t) (T := T) (s := s))).2.2.1
  rw [q_Mo_isWord]
  simp only [gK_N K, gK_8_0 K, gK_8_1 K, gK_8_2 K, gK_8_3 K, gK_8_4 K, gK_8_5 K, gK_8_6 K, gK_8_7 K, gK_8_8 K, gK_10_0 K, gK_10_1 K, gK_10_2 K, gK_11_0 K, gK_15_0 K, gK_15_1 K, gK_15_2 K, gK_15_3 K, gK_20_0 K, gK_20_1 K, gK_20_2 K, gK_20_3 K, gK_20_4 K, gK_20_5 K, gK_698_0 K, gK_698_3 K, gK_698_16 K, gK_698_17 K, gK_698_20 K, gK_698_21 K, gK_698_22 K, gK_698_23 K, gK_698_24 K, gK_698_25 K, gK_698_26 K, gK_698_27 K, gK_698_28 K, gK_698_29 K, gK_698_30 K, gK_698_31 K, gK_698_32 K, gK_698_33 K, gK_698_34 K, gK_698_35 K, gK_698_36 K, gK_698_37 K, gK_698_38 K, gK_698_39 K, gK_698_41 K, gK_698_42 K, gK_698_44 K, gK_c K, gK_d K, gK_n K, gK_p K, gok_8, gok_10, gok_11, gok_15, gok_20, gok_698, gok_699, goA_9, goA_12, goA_13, goA_14, goA_16, goA_17, goA_18, goA_19, goA_21, goA_22, goA_23, goA_24, goA_25, goA_26, goA_27, goA_28, goA_29, goA_30, goA_31, goA_732, goA_733, goA_734, goA_735, goA_736, goA_737, goA_738, goA_739, goA_740, goA_741, goA_742, goA_743, goA_744, goA_745, goA_746, goA_747, goA_748, goA_749, goA_750, goA_751, goA_752, goA_753, goA_754, goA_755, goA_756, goA_757, gN_wI, gR_wI, gL_wI, if_true, eq_self]
  rw [H.2.2.2.1]
  by_cases h : kTy t T s = 2
  · have h19 := kTy_w h
    rw [if_pos (z2.2 h), H.2.2.2.2.1 h, decide_eq_true h]
    by_cases h2 : kWd t T s = w
    · rw [if_pos (by rw [h2]), decide_eq_true h2]; rfl
    · rw [if_neg (fun u => h2 ((gn_eq (by omega) (by omega)).1 u)), decide_eq_false h2]; rfl
  · rw [if_neg (fun u => h (z2.1 u)), decide_eq_false h]; rfl
theorem J_word (hB : ∀ i, isB (t i)) (hT : T ≤ 3000) (R : TR c d cc dd n p t T m0 m1 mX mM) (Q : tP t T e k mX mM) {w : Nat} (hw : w < 19) : ∃ z mX', gd_call 41 [.ref 10, .int (Int32.ofNat w)] mX = some (.int z, mX') ∧ ((z = 1 ∧ oS mX mX' ∧ ∃ mM', gd_call 74 [.ref 698, .int (Int32.ofNat w)] mM = some (.null, mM') ∧ oZ mM mM' ∧ tP t T (kEn t T (kSt t T e)) (k + 1) mX' mM') ∨ (z = 0 ∧ ∃ mM', gd_call 74 [.ref 698, .int (Int32.ofNat w)] mM = some (.retAddr 0, mM') ∧ FO c d cc dd n p m0 m1 mX' mM')) := by
  obtain ⟨mX1, a1, a2, a3⟩ := fetch hB hT R Q
  have R1 := TR_S R a2
  have Kx := R1.1
  have Km := R1.2.1
  obtain ⟨q1, q2, q3, q4⟩ := id a3
  rw [q_Re_theWord, q_Mo_word]
  simp only [gK_N R.1, gK_8_0 R.1, gK_8_1 R.1, gK_8_2 R.1, gK_8_3 R.1, gK_8_4 R.1, gK_8_5 R.1, gK_8_6 R.1, gK_8_7 R.1, gK_8_8 R.1, gK_10_0 R.1, gK_10_1 R.1, gK_10_2 R.1, gK_11_0 R.1, gK_15_0 R.1, gK_15_1 R.1, gK_15_2 R.1, gK_15_3 R.1, gK_20_0 R.1, gK_20_1 R.1, gK_20_2 R.1, gK_20_3 R.1, gK_20_4 R.1, gK_20_5 R.1, gK_698_0 R.1, gK_698_3 R.1, gK_698_16 R.1, gK_698_17 R.1, gK_698_20 R.1, gK_698_21 R.1, gK_698_22 R.1, gK_698_23 R.1, gK_698_24 R.1, gK_698_25 R.1, gK_698_26 R.1, gK_698_27 R.1, gK_698_28 R.1, gK_698_29 R.1, gK_698_30 R.1, gK_698_31 R.1, gK_698_32 R.1, gK_698_33 R.1, gK_698_34 R.1, gK_698_35 R.1, gK_698_36 R.1, gK_698_37 R.1, gK_698_38 R.1, gK_698_39 R.1, gK_698_41 R.1, gK_698_42 R.1, gK_698_44 R.1, gK_c R.1, gK_d R.1, gK_n R.1, gK_p R.1, gok_8, gok_10, gok_11, gok_15, gok_20, gok_698, gok_699, goA_9, goA_12, goA_13, goA_14, goA_16, goA_17, goA_18, goA_19, goA_21, goA_22, goA_23, goA_24, goA_25, goA_26, goA_27, goA_28, goA_29, goA_30, goA_31, goA_732, goA_733, goA_734, goA_735, goA_736, goA_737, goA_738, goA_739, goA_740, goA_741, goA_742, goA_743, goA_744, goA_745, goA_746, goA_747, goA_748, goA_749, goA_750, goA_751, goA_752, goA_753, goA_754, goA_755, goA_756, goA_757, gN_wI, gR_wI, gL_wI, if_true, eq_self]
  rw [a1]
  simp only [gK_N Kx, gK_8_0 Kx, gK_8_1 Kx, gK_8_2 Kx, gK_8_3 Kx, gK_8_4 Kx, gK_8_5 Kx, gK_8_6 Kx, gK_8_7 Kx, gK_8_8 Kx, gK_10_0 Kx, gK_10_1 Kx, gK_10_2 Kx, gK_11_0 Kx, gK_15_0 Kx, gK_15_1 Kx, gK_15_2 Kx, gK_15_3 Kx, gK_20_0 Kx, gK_20_1 Kx, gK_20_2 Kx, gK_20_3 Kx, gK_20_4 Kx, gK_20_5 Kx, gK_698_0 Kx, gK_698_3 Kx, gK_698_16 Kx, gK_698_17 Kx, gK_698_20 Kx, gK_698_21 Kx, gK_698_22 Kx, gK_698_23 Kx, gK_698_24 Kx, gK_698_25 Kx, gK_698_26 Kx, gK_698_27 Kx, gK_698_28 Kx, gK_698_29 Kx, gK_698_30 Kx, gK_698_31 Kx, gK_698_32 Kx, gK_698_33 Kx, gK_698_34 Kx, gK_698_35 Kx, gK_698_36 Kx, gK_698_37 Kx, gK_698_38 Kx, gK_698_39 Kx, gK_698_41 Kx, gK_698_42 Kx, gK_698_44 Kx, gK_c Kx, gK_d Kx, gK_n Kx, gK_p Kx, gok_8, gok_10, gok_11, gok_15, gok_20, gok_698, gok_699, goA_9, goA_12, goA_13, goA_14, goA_16, goA_17, goA_18, goA_19, goA_21, goA_22, goA_23, goA_24, goA_25, goA_26, goA_27, goA_28, goA_29, goA_30, goA_31, goA_732, goA_733, goA_734, goA_735, goA_736, goA_737, goA_738, goA_739, goA_740, goA_741, goA_742, goA_743, goA_744, goA_745, goA_746, goA_747, goA_748, goA_749, goA_750, goA_751, goA_752, goA_753, goA_754, goA_755, goA_756, goA_757, gN_wI, gR_wI, gL_wI, if_true, eq_self, Option.bind_some, gd_kV_v]
  simp only [gK_N Km, gK_8_0 Km, gK_8_1 Km, gK_8_2 Km, gK_8_3 Km, gK_8_4 Km, gK_8_5 Km, gK_8_6 Km, gK_8_7 Km, gK_8_8 Km, gK_10_0 Km, gK_10_1 Km, gK_10_2 Km, gK_11_0 Km, gK_15_0 Km, gK_15_1 Km, gK_15_2 Km, gK_15_3 Km, gK_20_0 Km, gK_20_1 Km, gK_20_2 Km, gK_20_3 Km, gK_20_4 Km, gK_20_5 Km, gK_698_0 Km, gK_698_3 Km, gK_698_16 Km, gK_698_17 Km, gK_698_20 Km, gK_698_21 Km, gK_698_22 Km, gK_698_23 Km, gK_698_24 Km, gK_698_25 Km, gK_698_26 Km, gK_698_27 Km, gK_698_28 Km, gK_698_29 Km, gK_698_30 Km, gK_698_31 Km, gK_698_32 Km, gK_698_33 Km, gK_698_34 Km, gK_698_35 Km, gK_698_36 Km, gK_698_37 Km, gK_698_38 Km, gK_698_39 Km, gK_698_41 Km, gK_698_42 Km, gK_698_44 Km, gK_c Km, gK_d Km, gK_n Km, gK_p Km, gok_8, gok_10, gok_11, gok_15, gok_20, gok_698, gok_699, goA_9, goA_12, goA_13, goA_14, goA_16, goA_17, goA_18, goA_19, goA_21, goA_22, goA_23, goA_24, goA_25, goA_26, goA_27, goA_28, goA_29, goA_30, goA_31, goA_732, goA_733, goA_734, goA_735, goA_736, goA_737, goA_738, goA_739, goA_740, goA_741, goA_742, goA_743, goA_744, goA_745, goA_746, goA_747, goA_748, goA_749, goA_750, goA_751, goA_752, goA_753, goA_754, goA_755, goA_756, goA_757, gN_wI, gR_wI, gL_wI, if_true, eq_self]
  rw [c_isWord Km hw q4]
  simp only [gK_N Km, gK_8_0 Km, gK_8_1 Km, gK_8_2 Km, gK_8_3 Km, gK_8_4 Km, gK_8_5 Km, gK_8_6 Km, gK_8_7 Km, gK_8_8 Km, gK_10_0 Km, gK_10_1 Km, gK_10_2 Km, gK_11_0 Km, gK_15_0 Km, gK_15_1 Km, gK_15_2 Km, gK_15_3 Km, gK_20_0 Km, gK_20_1 Km, gK_20_2 Km, gK_20_3 Km, gK_20_4 Km, gK_20_5 Km, gK_698_0 Km, gK_698_3 Km, gK_698_16 Km, gK_698_17 Km, gK_698_20 Km, gK_698_21 Km, gK_698_22 Km, gK_698_23 Km, gK_698_24 Km, gK_698_25 Km, gK_698_26 Km, gK_698_27 Km, gK_698_28 Km, gK_698_29 Km, gK_698_30 Km, gK_698_31 Km, gK_698_32 Km, gK_698_33 Km, gK_698_34 Km, gK_698_35 Km, gK_698_36 Km, gK_698_37 Km, gK_698_38 Km, gK_698_39 Km, gK_698_41 Km, gK_698_42 Km, gK_698_44 Km, gK_c Km, gK_d Km, gK_n Km, gK_p Km, gok_8, gok_10, gok_11, gok_15, gok_20, gok_698, gok_699, goA_9, goA_12, goA_13, goA_14, goA_16, goA_17, goA_18, goA_19, goA_21, goA_22, goA_23, goA_24, goA_25, goA_26, goA_27, goA_28, goA_29, goA_30, goA_31, goA_732, goA_733, goA_734, goA_735, goA_736, goA_737, goA_738, goA_739, goA_740, goA_741, goA_742, goA_743, goA_744, goA_745, goA_746, goA_747, goA_748, goA_749, goA_750, goA_751, goA_752, goA_753, goA_754, goA_755, goA_756, goA_757, gN_wI, gR_wI, gL_wI, if_true, eq_self, Option.bind_some, gd_kI_i]
  by_cases h : kTy t T (kSt t T e) = 2 ∧ kWd t T (kSt t T e) = w
  · have hne : ¬ T ≤ kSt t T e := fun u => by rw [kTy_0.2 u] at h; omega
    rw [if_pos ((tkX_w hw q3).2 h), decide_eq_true h.1, decide_eq_true h.2, show gB (true && true) = 1 from rfl, c_nd1]
    simp only [gK_N Km, gK_8_0 Km, gK_8_1 Km, gK_8_2 Km, gK_8_3 Km, gK_8_4 Km, gK_8_5 Km, gK_8_6 Km, gK_8_7 Km, gK_8_8 Km, gK_10_0 Km, gK_10_1 Km, gK_10_2 Km, gK_11_0 Km, gK_15_0 Km, gK_15_1 Km, gK_15_2 Km, gK_15_3 Km, gK_20_0 Km, gK_20_1 Km, gK_20_2 Km, gK_20_3 Km, gK_20_4 Km, gK_20_5 Km, gK_698_0 Km, gK_698_3 Km, gK_698_16 Km, gK_698_17 Km, gK_698_20 Km, gK_698_21 Km, gK_698_22 Km, gK_698_23 Km, gK_698_24 Km, gK_698_25 Km, gK_698_26 Km, gK_698_27 Km, gK_698_28 Km, gK_698_29 Km, gK_698_30 Km, gK_698_31 Km, gK_698_32 Km, gK_698_33 Km, gK_698_34 Km, gK_698_35 Km, gK_698_36 Km, gK_698_37 Km, gK_698_38 Km, gK_698_39 Km, gK_698_41 Km, gK_698_42 Km, gK_698_44 Km, gK_c Km, gK_d Km, gK_n Km, gK_p Km, gok_8, gok_10, gok_11, gok_15, gok_20, gok_698, gok_699, goA_9, goA_12, goA_13, goA_14, goA_16, goA_17, goA_18, goA_19, goA_21, goA_22, goA_23, goA_24, goA_25, goA_26, goA_27, goA_28, goA_29, goA_30, goA_31, goA_732, goA_733, goA_734, goA_735, goA_736, goA_737, goA_738, goA_739, goA_740, goA_741, goA_742, goA_743, goA_744, goA_745, goA_746, goA_747, goA_748, goA_749, goA_750, goA_751, goA_752, goA_753, goA_754, goA_755, goA_756, goA_757, gN_wI, gR_wI, gL_wI, if_true, eq_self, Option.bind_some, gd_kV_v]
    rcases pass hB hT R1 a3 hne with ⟨hk, s1, mM', s2, s3, s4⟩ | ⟨hk, s1, s2, s3⟩
    · rw [s1, s2]
      exact ⟨1, mX1, rfl, .inl ⟨rfl, a2, mM', rfl, s3, s4⟩⟩
    · rw [s1, s2]
      exact ⟨0, _, rfl, .inr ⟨rfl, _, rfl, s3⟩⟩
  · have e0 : (decide (kTy t T (kSt t T e) = 2) && decide (kWd t T (kSt t T e) = w)) = false := by
      rw [← Bool.not_eq_true, Bool.and_eq_true]
      exact fun u => h ⟨of_decide_eq_true u.1, of_decide_eq_true u.2⟩
    rw [if_neg (fun u => h ((tkX_w hw q3).1 u)), e0, show gB false = 0 from rfl, c_nd0 Km, c_st_f Kx (.inl rfl)]
    exact ⟨0, _, rfl, .inr ⟨rfl, _, rfl, FO_mk R1 a3 1⟩⟩
/-- the reference at a line's end -/
noncomputable def rE (m : gd_M) : Option (Value × gd_M) := if ((gI m 698 6) = 4 : Prop) then ((gd_call 68 [.ref 698, .int 1, .int 1] m).bind (gd_kV fun m12 => if gd_ok (gN m12) 698 9 = true then ((gd_call 69 [.ref 698] m12).bind (gd_kV fun m15 => some (.null, m15))) else none)) else ((gd_call 68 [.ref 698, .int 0, .int 1] m).bind (gd_kV fun m17 => if gd_ok (gN m17) 698 9 = true then ((gd_call 69 [.ref 698] m17).bind (gd_kV fun m20 => some (.null, m20))) else none))
theorem J_end (hB : ∀ i, isB (t i)) (hT : T ≤ 3000) (R : TR c d cc dd n p t T m0 m1 mX mM) (Q : tF t T s k mX mM) : (gd_call 44 [.ref 10] mX = some (.int 1, mX) ∧ ∃ mM', rE mM = some (.null, mM') ∧ oZ mM mM' ∧ tP t T (kEn t T s) (k + 1) mX mM') ∨ (∃ mX' mM', gd_call 44 [.ref 10] mX = some (.int 0, mX') ∧ rE mM = some (.retAddr 0, mM') ∧ FO c d cc dd n p m0 m1 mX' mM') := by
  have Kx := R.1
  have Km := R.2.1
  obtain ⟨q1, q2, q3, q4⟩ := id Q
  have z4 := (xzTy _ (kTy_6 (t := t) (T := T) (s := s))).2.2.2.2.1
  have x3 := (xzTy _ (kTy_6 (t := t) (T := T) (s := s))).1.2.2.1
  rw [q_Re_endsLine]
  unfold rE
  simp only [gK_N Kx, gK_8_0 Kx, gK_8_1 Kx, gK_8_2 Kx, gK_8_3 Kx, gK_8_4 Kx, gK_8_5 Kx, gK_8_6 Kx, gK_8_7 Kx, gK_8_8 Kx, gK_10_0 Kx, gK_10_1 Kx, gK_10_2 Kx, gK_11_0 Kx, gK_15_0 Kx, gK_15_1 Kx, gK_15_2 Kx, gK_15_3 Kx, gK_20_0 Kx, gK_20_1 Kx, gK_20_2 Kx, gK_20_3 Kx, gK_20_4 Kx, gK_20_5 Kx, gK_698_0 Kx, gK_698_3 Kx, gK_698_16 Kx, gK_698_17 Kx, gK_698_20 Kx, gK_698_21 Kx, gK_698_22 Kx, gK_698_23 Kx, gK_698_24 Kx, gK_698_25 Kx, gK_698_26 Kx, gK_698_27 Kx, gK_698_28 Kx, gK_698_29 Kx, gK_698_30 Kx, gK_698_31 Kx, gK_698_32 Kx, gK_698_33 Kx, gK_698_34 Kx, gK_698_35 Kx, gK_698_36 Kx, gK_698_37 Kx, gK_698_38 Kx, gK_698_39 Kx, gK_698_41 Kx, gK_698_42 Kx, gK_698_44 Kx, gK_c Kx, gK_d Kx, gK_n Kx, gK_p Kx, gok_8, gok_10, gok_11, gok_15, gok_20, gok_698, gok_699, goA_9, goA_12, goA_13, goA_14, goA_16, goA_17, goA_18, goA_19, goA_21, goA_22, goA_23, goA_24, goA_25, goA_26, goA_27, goA_28, goA_29, goA_30, goA_31, goA_732, goA_733, goA_734, goA_735, goA_736, goA_737, goA_738, goA_739, goA_740, goA_741, goA_742, goA_743, goA_744, goA_745, goA_746, goA_747, goA_748, goA_749, goA_750, goA_751, goA_752, goA_753, goA_754, goA_755, goA_756, goA_757, gN_wI, gR_wI, gL_wI, if_true, eq_self]
  rw [q3.2.2.2.1, q4.2.2.2.1]
  by_cases h : kTy t T s = 4
  · have hne : ¬ T ≤ s := fun u => by rw [kTy_0.2 u] at h; omega
    rw [if_pos (x3.2 h), if_pos (z4.2 h), c_nd1]
    simp only [gK_N Km, gK_8_0 Km, gK_8_1 Km, gK_8_2 Km, gK_8_3 Km, gK_8_4 Km, gK_8_5 Km, gK_8_6 Km, gK_8_7 Km, gK_8_8 Km, gK_10_0 Km, gK_10_1 Km, gK_10_2 Km, gK_11_0 Km, gK_15_0 Km, gK_15_1 Km, gK_15_2 Km, gK_15_3 Km, gK_20_0 Km, gK_20_1 Km, gK_20_2 Km, gK_20_3 Km, gK_20_4 Km, gK_20_5 Km, gK_698_0 Km, gK_698_3 Km, gK_698_16 Km, gK_698_17 Km, gK_698_20 Km, gK_698_21 Km, gK_698_22 Km, gK_698_23 Km, gK_698_24 Km, gK_698_25 Km, gK_698_26 Km, gK_698_27 Km, gK_698_28 Km, gK_698_29 Km, gK_698_30 Km, gK_698_31 Km, gK_698_32 Km, gK_698_33 Km, gK_698_34 Km, gK_698_35 Km, gK_698_36 Km, gK_698_37 Km, gK_698_38 Km, gK_698_39 Km, gK_698_41 Km, gK_698_42 Km, gK_698_44 Km, gK_c Km, gK_d Km, gK_n Km, gK_p Km, gok_8, gok_10, gok_11, gok_15, gok_20, gok_698, gok_699, goA_9, goA_12, goA_13, goA_14, goA_16, goA_17, goA_18, goA_19, goA_21, goA_22, goA_23, goA_24, goA_25, goA_26, goA_27, goA_28, goA_29, goA_30, goA_31, goA_732, goA_733, goA_734, goA_735, goA_736, goA_737, goA_738, goA_739, goA_740, goA_741, goA_742, goA_743, goA_744, goA_745, goA_746, goA_747, goA_748, goA_749, goA_750, goA_751, goA_752, goA_753, goA_754, goA_755, goA_756, goA_757, gN_wI, gR_wI, gL_wI, if_true, eq_self, Option.bind_some, gd_kV_v]
    rcases pass hB hT R Q hne with ⟨hk, s1, mM', s2, s3, s4⟩ | ⟨hk, s1, s2, s3⟩
    · rw [s1, s2]
      exact .inl ⟨rfl, mM', rfl, s3, s4⟩
    · rw [s1, s2]
      exact .inr ⟨_, _, rfl, rfl, s3⟩
  · rw [if_neg (fun u => h (x3.1 u)), if_neg (fun u => h (z4.1 u)), c_nd0 Km, c_st_f Kx (.inl rfl)]
    exact .inr ⟨_, _, rfl, rfl, FO_mk R Q 1⟩
end P93
