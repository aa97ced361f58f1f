/-! ===== constructors ===== -/
theorem gU_e {m m' : gd_M} (h : m'.2.2 = m.2.2) : gU m' = gU m := congrArg (fun t => t.2.2.1) h
theorem gN_e {m m' : gd_M} (h : m'.2.2 = m.2.2) : gN m' = gN m := congrArg (fun t => t.2.1) h
theorem gL_e {m m' : gd_M} (h : m'.2.2 = m.2.2) : gL m' = gL m := congrArg (fun t => t.2.2.2) h
theorem gR_e {m m' : gd_M} (h : m'.2.2 = m.2.2) : gR m' = gR m := congrArg (fun t => t.1) h
theorem gR_wR_s {m : gd_M} {a k z : Nat} : gR (wR m a k z) a k = z := if_pos ⟨rfl, rfl⟩
theorem gR_wR_k {m : gd_M} {a k z b j : Nat} (h : j ≠ k) : gR (wR m a k z) b j = gR m b j := if_neg fun q => h q.2
theorem gR_wR_f {m : gd_M} {a k z b : Nat} (h : b ≠ a) : gR (wR m a k z) b = gR m b := funext fun _ => if_neg fun q => h q.1
theorem gR_alf {m : gd_M} {z : Nat} : gR (gd_al m z) = gR m := rfl
theorem gI_wRf {m : gd_M} {a k z : Nat} : gI (wR m a k z) = gI m := rfl
theorem gI_alf {m : gd_M} {z : Nat} : gI (gd_al m z) = gI m := rfl
theorem gJ_wRf {m : gd_M} {a k z : Nat} : gJ (wR m a k z) = gJ m := rfl
theorem gJ_alf {m : gd_M} {z : Nat} : gJ (gd_al m z) = gJ m := rfl
/-- ids from b to n are new, u slots more; no ref of another id has changed -/
def iC (b n u : Nat) (m m' : gd_M) : Prop := gN m' = n ∧ gU m' = gU m + u ∧ gL m' = gL m ∧ ∀ a, (a < b ∨ n ≤ a) → gR m' a = gR m a
theorem sc_loop : ∀ j w i (m : gd_M), w < 19 → i ≤ gWl w → gWs w + i + j = 99 → gN m = 13 → gR m 11 0 = 12 → (∀ v < w, gJ m 12 v = gQ v) → gJ m 12 w = gC5 (fun x => gd_tx (gWs w + x)) i → (∀ v, w < v → gJ m 12 v = 0) → ∃ m', gd_Den (7, 16, [.ref 11, .int (Int32.ofNat w), .int (Int32.ofNat (gWs w + i))], [], m) = some (.null, m') ∧ m'.1 = m.1 ∧ m'.2.2 = m.2.2 ∧ ∀ v < 19, gJ m' 12 v = gQ v := by
  intro j
  induction j with
  | zero =>
    intro w i m hw hi h
    obtain ⟨g1, -⟩ := gWs_ok w hw
    omega
  | succ j ih =>
    intro w i m hw hi h hN hR h1 h2 h3
    obtain ⟨g1, g2, g3, g4, g5, g6⟩ := gWs_ok w hw
    have hc : gWs w + i < 99 := by omega
    rw [q_Sc_init_16, c_S_length]
    simp only [Option.bind_some, gd_kI_i]
    rw [if_pos (show Int32.ofNat (gWs w + i) < 99 from (@gn_lt (gWs w + i) 99 (by omega) (by decide)).2 hc), if_pos (show Int32.ofNat w < 19 from (@gn_lt w 19 (by omega) (by decide)).2 hw), c_S_charAt m hc]
    simp only [Option.bind_some, gd_kI_i]
    by_cases e : i = gWl w
    · rw [e, g2, if_pos rfl, gn_succ, gn_succ]
      rw [e] at h2
      by_cases h18 : w = 18
      · refine ⟨m, ?_, rfl, rfl, fun v hv => ?_⟩
        · rw [h18] at g5 ⊢
          have g5' : gWs 18 + gWl 18 + 1 = 99 := by omega
          rw [g5', q_Sc_init_16, c_S_length]
          simp only [Option.bind_some, gd_kI_i]
          rw [if_neg (show ¬ Int32.ofNat 99 < 99 by decide)]
        · by_cases q : v = w
          · rw [q, h2]; rfl
          · exact h1 v (by omega)
      · have g4' := g4 (by omega)
        obtain ⟨m', a1, a2, a3, a4⟩ := ih (w + 1) 0 m (by omega) (Nat.zero_le _) (by omega) hN hR (fun v hv => by
          by_cases q : v = w
          · rw [q, h2]; rfl
          · exact h1 v (by omega)) (h3 (w + 1) (by omega)) (fun v hv => h3 v (by omega))
        rw [Nat.add_zero, g4'] at a1
        exact ⟨m', a1, a2, a3, a4⟩
    · obtain ⟨c1, -⟩ := g3 i (by omega)
      have i1 : gd_okA 13 12 13 (Int32.ofNat w) = true := gd_okA_t (l := 19) (by decide +kernel) (by decide) (by decide +kernel) (gn_in (by omega) hw)
      rw [if_neg c1, hN, hR, if_pos (show gd_ok 13 11 5 = true by decide +kernel), i1, if_pos rfl, c_S_charAt m hc]
      simp only [Option.bind_some, gd_kI_i]
      rw [hN, i1, if_pos rfl, gn_nat (by omega), h2, gn_succ]
      obtain ⟨m', a1, a2, a3, a4⟩ := ih w (i + 1) (wJ m 12 w (gC5 (fun x => gd_tx (gWs w + x)) i <<< ((5 : Int32).toInt64 &&& 63) ||| (gd_tx (gWs w + i) - 96).toInt64)) hw (by omega) (by omega) hN hR (fun v hv => by rw [gJ_wJ_k (by omega)]; exact h1 v hv) gJ_wJ_s (fun v hv => by rw [gJ_wJ_k (by omega)]; exact h3 v hv)
      exact ⟨m', a1, a2, a3, a4⟩
theorem k_Sc (m : gd_M) (hN : gN m = 12) (h0 : ∀ w, gJ m 12 w = 0) : gW (gd_call 7 [.ref 11] m) (qV fun m' => iC 11 13 19 m m' ∧ gI m' = gI m ∧ gR m' 11 0 = 12 ∧ ∀ w < 19, gJ m' 12 w = gQ w) := by
  refine gW_eq (q_Sc_init 11 m) ?_
  rw [hN]
  repeat refine gW_g (by decide +kernel) ?_
  obtain ⟨m', a1, a2, a3, a4⟩ := sc_loop 99 0 0 (wR (gd_al m (19 : Int32).toNatClampNeg) 11 0 12) (by decide) (Nat.zero_le _) (by decide) (by rw [gN_wR, gN_al, hN]) (by rw [gR_wR, if_pos ⟨rfl, rfl⟩]) (fun v hv => absurd hv (Nat.not_lt_zero v)) (h0 0) (fun v _ => h0 v)
  refine gW_eq a1 (gW_retV ⟨⟨?_, ?_, ?_, fun a ha => ?_⟩, ?_, ?_, a4⟩)
  · rw [gN_e a3, gN_wR, gN_al, hN]
  · rw [gU_e a3, gU_wR, gU_al]; rfl
  · rw [gL_e a3]; rfl
  · rw [gR_e a3]
    exact funext fun k => if_neg fun q => by omega
  · exact congrArg (fun (f : Nat → Nat → Int32) => f) a2
  · rw [gR_e a3, gR_wR, if_pos ⟨rfl, rfl⟩]
theorem k_Re (m : gd_M) (hN : gN m = 11) (h0 : ∀ w, gJ m 12 w = 0) : gW (gd_call 8 [.ref 10] m) (qV fun m' => iC 10 15 69 m m' ∧ (∀ a, a ≠ 10 → gI m' a = gI m a) ∧ (∀ k, k ≠ 7 → gI m' 10 k = gI m 10 k) ∧ gI m' 10 7 = -1 ∧ (gR m' 10 0 = 11 ∧ gR m' 10 1 = 13 ∧ gR m' 10 2 = 14 ∧ gR m' 11 0 = 12) ∧ ∀ w < 19, gJ m' 12 w = gQ w) := by
  refine gW_eq (q_Re_init 10 m) ?_
  rw [hN]
  repeat refine gW_g (by decide +kernel) ?_
  refine gW_k0V (k_Sc (gd_al m 10) (by rw [gN_al, hN]) h0) fun m5 h5 => ?_
  obtain ⟨⟨n5, u5, l5, r5⟩, i5, r11, j5⟩ := h5
  rw [n5]
  repeat refine gW_g (by decide +kernel) ?_
  refine gW_retV ⟨⟨?_, ?_, ?_, fun a ha => ?_⟩, fun a ha => ?_, fun k hk => ?_, gI_wI_s, ⟨rfl, rfl, rfl, ?_⟩, j5⟩
  · show gN m5 + 1 + 1 = 15
    rw [n5]
  · show gU m5 + 30 + 10 = gU m + 69
    rw [u5, gU_al]
  · exact l5
  · have e : gR (wI (wR (gd_al (wR (gd_al (wR m5 10 0 11) (30 : Int32).toNatClampNeg) 10 1 13) (10 : Int32).toNatClampNeg) 10 2 (13 + 1)) 10 7 (-1)) a = gR m5 a := by
      have ha' : a ≠ 10 := by omega
      funext k
      simp only [gR_wI, gR_wR, gR_al, ha', false_and, if_false]
    rw [e]
    by_cases h : a < 11 ∨ 13 ≤ a
    · rw [r5 a h]; rfl
    · omega
  · rw [gI_wI_f ha]
    show gI m5 a = gI m a
    rw [i5]; rfl
  · rw [gI_wI_k hk]
    show gI m5 10 k = gI m 10 k
    rw [i5]; rfl
  · exact r11

theorem k_Ch (m : gd_M) (hN : gN m = 16) : gW (gd_call 9 [.ref 15] m) (qV fun m' => iC 15 20 2570 m m' ∧ gI m' = gI m ∧ gJ m' = gJ m ∧ gR m' 15 0 = 16 ∧ gR m' 15 1 = 17 ∧ gR m' 15 2 = 18 ∧ gR m' 15 3 = 19) := by
  refine gW_eq (q_Ch_init 15 m) ?_
  rw [hN]
  repeat refine gW_g (by decide +kernel) ?_
  obtain ⟨mm, hmm⟩ : ∃ x, (wR (gd_al (wR (gd_al (wR (gd_al (wR (gd_al m (1280 : Int32).toNatClampNeg) 15 0 (16)) (1280 : Int32).toNatClampNeg) 15 1 (16 + 1)) (5 : Int32).toNatClampNeg) 15 2 (16 + 2)) (5 : Int32).toNatClampNeg) 15 3 (16 + 3)) = x := ⟨_, rfl⟩
  rw [hmm]
  refine gW_retV ⟨⟨?_, ?_, ?_, fun a ha => ?_⟩, ?_, ?_, ?_, ?_, ?_, ?_⟩
  · rw [← hmm]; simp only [gN_wR, gN_al, hN]
  · rw [← hmm]; simp only [gU_wR, gU_al]; rfl
  · rw [← hmm]; simp only [gL_wR, gL_al]
  · have ha' : a ≠ 15 := by omega
    rw [← hmm, gR_wR_f ha', gR_alf, gR_wR_f ha', gR_alf, gR_wR_f ha', gR_alf, gR_wR_f ha', gR_alf]
  · rw [← hmm]; simp only [gI_wRf, gI_alf]
  · rw [← hmm]; simp only [gJ_wRf, gJ_alf]
  · rw [← hmm, gR_wR_k (by decide), gR_al, gR_wR_k (by decide), gR_al, gR_wR_k (by decide), gR_al, gR_wR_s]
  · rw [← hmm, gR_wR_k (by decide), gR_al, gR_wR_k (by decide), gR_al, gR_wR_s]
  · rw [← hmm, gR_wR_k (by decide), gR_al, gR_wR_s]
  · rw [← hmm, gR_wR_s]
theorem k_Ra (m : gd_M) (hN : gN m = 21) : gW (gd_call 10 [.ref 20] m) (qV fun m' => iC 20 27 180 m m' ∧ gI m' = gI m ∧ gJ m' = gJ m ∧ gR m' 20 0 = 21 ∧ gR m' 20 1 = 22 ∧ gR m' 20 2 = 23 ∧ gR m' 20 3 = 24 ∧ gR m' 20 4 = 25 ∧ gR m' 20 5 = 26) := by
  refine gW_eq (q_Ra_init 20 m) ?_
  rw [hN]
  repeat refine gW_g (by decide +kernel) ?_
  obtain ⟨mm, hmm⟩ : ∃ x, (wR (gd_al (wR (gd_al (wR (gd_al (wR (gd_al (wR (gd_al (wR (gd_al m (40 : Int32).toNatClampNeg) 20 0 (21)) (40 : Int32).toNatClampNeg) 20 1 (21 + 1)) (40 : Int32).toNatClampNeg) 20 2 (21 + 2)) (40 : Int32).toNatClampNeg) 20 3 (21 + 3)) (10 : Int32).toNatClampNeg) 20 4 (21 + 4)) (10 : Int32).toNatClampNeg) 20 5 (21 + 5)) = x := ⟨_, rfl⟩
  rw [hmm]
  refine gW_retV ⟨⟨?_, ?_, ?_, fun a ha => ?_⟩, ?_, ?_, ?_, ?_, ?_, ?_, ?_, ?_⟩
  · rw [← hmm]; simp only [gN_wR, gN_al, hN]
  · rw [← hmm]; simp only [gU_wR, gU_al]; rfl
  · rw [← hmm]; simp only [gL_wR, gL_al]
  · have ha' : a ≠ 20 := by omega
    rw [← hmm, gR_wR_f ha', gR_alf, gR_wR_f ha', gR_alf, gR_wR_f ha', gR_alf, gR_wR_f ha', gR_alf, gR_wR_f ha', gR_alf, gR_wR_f ha', gR_alf]
  · rw [← hmm]; simp only [gI_wRf, gI_alf]
  · rw [← hmm]; simp only [gJ_wRf, gJ_alf]
  · rw [← hmm, gR_wR_k (by decide), gR_al, gR_wR_k (by decide), gR_al, gR_wR_k (by decide), gR_al, gR_wR_k (by decide), gR_al, gR_wR_k (by decide), gR_al, gR_wR_s]
  · rw [← hmm, gR_wR_k (by decide), gR_al, gR_wR_k (by decide), gR_al, gR_wR_k (by decide), gR_al, gR_wR_k (by decide), gR_al, gR_wR_s]
  · rw [← hmm, gR_wR_k (by decide), gR_al, gR_wR_k (by decide), gR_al, gR_wR_k (by decide), gR_al, gR_wR_s]
  · rw [← hmm, gR_wR_k (by decide), gR_al, gR_wR_k (by decide), gR_al, gR_wR_s]
  · rw [← hmm, gR_wR_k (by decide), gR_al, gR_wR_s]
  · rw [← hmm, gR_wR_s]
theorem k_MC0 (m : gd_M) (hN : gN m = 701) : gW (gd_call 19 [.ref 700] m) (qV fun m' => iC 700 716 277 m m' ∧ gI m' = gI m ∧ gJ m' = gJ m ∧ gR m' 700 3 = 701 ∧ gR m' 700 4 = 702 ∧ gR m' 700 5 = 703 ∧ gR m' 700 6 = 704 ∧ gR m' 700 7 = 705 ∧ gR m' 700 8 = 706 ∧ gR m' 700 9 = 707 ∧ gR m' 700 10 = 708 ∧ gR m' 700 11 = 709 ∧ gR m' 700 12 = 710 ∧ gR m' 700 13 = 711 ∧ gR m' 700 14 = 712 ∧ gR m' 700 15 = 713 ∧ gR m' 700 16 = 714 ∧ gR m' 700 17 = 715) := by
  refine gW_eq (q_MC_init 700 m) ?_
  rw [hN]
  repeat refine gW_g (by decide +kernel) ?_
  obtain ⟨mm, hmm⟩ : ∃ x, (wR (gd_al (wR (gd_al (wR (gd_al (wR (gd_al (wR (gd_al (wR (gd_al (wR (gd_al (wR (gd_al (wR (gd_al (wR (gd_al (wR (gd_al (wR (gd_al (wR (gd_al (wR (gd_al (wR (gd_al m (31 : Int32).toNatClampNeg) 700 3 (701)) (31 : Int32).toNatClampNeg) 700 4 (701 + 1)) (11 : Int32).toNatClampNeg) 700 5 (701 + 2)) (11 : Int32).toNatClampNeg) 700 6 (701 + 3)) (31 : Int32).toNatClampNeg) 700 7 (701 + 4)) (31 : Int32).toNatClampNeg) 700 8 (701 + 5)) (31 : Int32).toNatClampNeg) 700 9 (701 + 6)) (21 : Int32).toNatClampNeg) 700 10 (701 + 7)) (21 : Int32).toNatClampNeg) 700 11 (701 + 8)) (21 : Int32).toNatClampNeg) 700 12 (701 + 9)) (11 : Int32).toNatClampNeg) 700 13 (701 + 10)) (11 : Int32).toNatClampNeg) 700 14 (701 + 11)) (5 : Int32).toNatClampNeg) 700 15 (701 + 12)) (5 : Int32).toNatClampNeg) 700 16 (701 + 13)) (5 : Int32).toNatClampNeg) 700 17 (701 + 14)) = x := ⟨_, rfl⟩
  rw [hmm]
  refine gW_retV ⟨⟨?_, ?_, ?_, fun a ha => ?_⟩, ?_, ?_, ?_, ?_, ?_, ?_, ?_, ?_, ?_, ?_, ?_, ?_, ?_, ?_, ?_, ?_, ?_⟩
  · rw [← hmm]; simp only [gN_wR, gN_al, hN]
  · rw [← hmm]; simp only [gU_wR, gU_al]; rfl
  · rw [← hmm]; simp only [gL_wR, gL_al]
  · have ha' : a ≠ 700 := by omega
    rw [← hmm, gR_wR_f ha', gR_alf, gR_wR_f ha', gR_alf, gR_wR_f ha', gR_alf, gR_wR_f ha', gR_alf, gR_wR_f ha', gR_alf, gR_wR_f ha', gR_alf, gR_wR_f ha', gR_alf, gR_wR_f ha', gR_alf, gR_wR_f ha', gR_alf, gR_wR_f ha', gR_alf, gR_wR_f ha', gR_alf, gR_wR_f ha', gR_alf, gR_wR_f ha', gR_alf, gR_wR_f ha', gR_alf, gR_wR_f ha', gR_alf]
  · rw [← hmm]; simp only [gI_wRf, gI_alf]
  · rw [← hmm]; simp only [gJ_wRf, gJ_alf]
  · rw [← hmm, gR_wR_k (by decide), gR_al, gR_wR_k (by decide), gR_al, gR_wR_k (by decide), gR_al, gR_wR_k (by decide), gR_al, gR_wR_k (by decide), gR_al, gR_wR_k (by decide), gR_al, gR_wR_k (by decide), gR_al, gR_wR_k (by decide), gR_al, gR_wR_k (by decide), gR_al, gR_wR_k (by decide), gR_al, gR_wR_k (by decide), gR_al, gR_wR_k (by decide), gR_al, gR_wR_k (by decide), gR_al, gR_wR_k (by decide), gR_al, gR_wR_s]
  · rw [← hmm, gR_wR_k (by decide), gR_al, gR_wR_k (by decide), gR_al, gR_wR_k (by decide), gR_al, gR_wR_k (by decide), gR_al, gR_wR_k (by decide), gR_al, gR_wR_k (by decide), gR_al, gR_wR_k (by decide), gR_al, gR_wR_k (by decide), gR_al, gR_wR_k (by decide), gR_al, gR_wR_k (by decide), gR_al, gR_wR_k (by decide), gR_al, gR_wR_k (by decide), gR_al, gR_wR_k (by decide), gR_al, gR_wR_s]
  · rw [← hmm, gR_wR_k (by decide), gR_al, gR_wR_k (by decide), gR_al, gR_wR_k (by decide), gR_al, gR_wR_k (by decide), gR_al, gR_wR_k (by decide), gR_al, gR_wR_k (by decide), gR_al, gR_wR_k (by decide), gR_al, gR_wR_k (by decide), gR_al, gR_wR_k (by decide), gR_al, gR_wR_k (by decide), gR_al, gR_wR_k (by decide), gR_al, gR_wR_k (by decide), gR_al, gR_wR_s]
  · rw [← hmm, gR_wR_k (by decide), gR_al, gR_wR_k (by decide), gR_al, gR_wR_k (by decide), gR_al, gR_wR_k (by decide), gR_al, gR_wR_k (by decide), gR_al, gR_wR_k (by decide), gR_al, gR_wR_k (by decide), gR_al, gR_wR_k (by decide), gR_al, gR_wR_k (by decide), gR_al, gR_wR_k (by decide), gR_al, gR_wR_k (by decide), gR_al, gR_wR_s]
  · rw [← hmm, gR_wR_k (by decide), gR_al, gR_wR_k (by decide), gR_al, gR_wR_k (by decide), gR_al, gR_wR_k (by decide), gR_al, gR_wR_k (by decide), gR_al, gR_wR_k (by decide), gR_al, gR_wR_k (by decide), gR_al, gR_wR_k (by decide), gR_al, gR_wR_k (by decide), gR_al, gR_wR_k (by decide), gR_al, gR_wR_s]
  · rw [← hmm, gR_wR_k (by decide), gR_al, gR_wR_k (by decide), gR_al, gR_wR_k (by decide), gR_al, gR_wR_k (by decide), gR_al, gR_wR_k (by decide), gR_al, gR_wR_k (by decide), gR_al, gR_wR_k (by decide), gR_al, gR_wR_k (by decide), gR_al, gR_wR_k (by decide), gR_al, gR_wR_s]
  · rw [← hmm, gR_wR_k (by decide), gR_al, gR_wR_k (by decide), gR_al, gR_wR_k (by decide), gR_al, gR_wR_k (by decide), gR_al, gR_wR_k (by decide), gR_al, gR_wR_k (by decide), gR_al, gR_wR_k (by decide), gR_al, gR_wR_k (by decide), gR_al, gR_wR_s]
  · rw [← hmm, gR_wR_k (by decide), gR_al, gR_wR_k (by decide), gR_al, gR_wR_k (by decide), gR_al, gR_wR_k (by decide), gR_al, gR_wR_k (by decide), gR_al, gR_wR_k (by decide), gR_al, gR_wR_k (by decide), gR_al, gR_wR_s]
  · rw [← hmm, gR_wR_k (by decide), gR_al, gR_wR_k (by decide), gR_al, gR_wR_k (by decide), gR_al, gR_wR_k (by decide), gR_al, gR_wR_k (by decide), gR_al, gR_wR_k (by decide), gR_al, gR_wR_s]
  · rw [← hmm, gR_wR_k (by decide), gR_al, gR_wR_k (by decide), gR_al, gR_wR_k (by decide), gR_al, gR_wR_k (by decide), gR_al, gR_wR_k (by decide), gR_al, gR_wR_s]
  · rw [← hmm, gR_wR_k (by decide), gR_al, gR_wR_k (by decide), gR_al, gR_wR_k (by decide), gR_al, gR_wR_k (by decide), gR_al, gR_wR_s]
  · rw [← hmm, gR_wR_k (by decide), gR_al, gR_wR_k (by decide), gR_al, gR_wR_k (by decide), gR_al, gR_wR_s]
  · rw [← hmm, gR_wR_k (by decide), gR_al, gR_wR_k (by decide), gR_al, gR_wR_s]
  · rw [← hmm, gR_wR_k (by decide), gR_al, gR_wR_s]
  · rw [← hmm, gR_wR_s]
theorem k_MC1 (m : gd_M) (hN : gN m = 717) : gW (gd_call 19 [.ref 716] m) (qV fun m' => iC 716 732 277 m m' ∧ gI m' = gI m ∧ gJ m' = gJ m ∧ gR m' 716 3 = 717 ∧ gR m' 716 4 = 718 ∧ gR m' 716 5 = 719 ∧ gR m' 716 6 = 720 ∧ gR m' 716 7 = 721 ∧ gR m' 716 8 = 722 ∧ gR m' 716 9 = 723 ∧ gR m' 716 10 = 724 ∧ gR m' 716 11 = 725 ∧ gR m' 716 12 = 726 ∧ gR m' 716 13 = 727 ∧ gR m' 716 14 = 728 ∧ gR m' 716 15 = 729 ∧ gR m' 716 16 = 730 ∧ gR m' 716 17 = 731) := by
  refine gW_eq (q_MC_init 716 m) ?_
  rw [hN]
  repeat refine gW_g (by decide +kernel) ?_
  obtain ⟨mm, hmm⟩ : ∃ x, (wR (gd_al (wR (gd_al (wR (gd_al (wR (gd_al (wR (gd_al (wR (gd_al (wR (gd_al (wR (gd_al (wR (gd_al (wR (gd_al (wR (gd_al (wR (gd_al (wR (gd_al (wR (gd_al (wR (gd_al m (31 : Int32).toNatClampNeg) 716 3 (717)) (31 : Int32).toNatClampNeg) 716 4 (717 + 1)) (11 : Int32).toNatClampNeg) 716 5 (717 + 2)) (11 : Int32).toNatClampNeg) 716 6 (717 + 3)) (31 : Int32).toNatClampNeg) 716 7 (717 + 4)) (31 : Int32).toNatClampNeg) 716 8 (717 + 5)) (31 : Int32).toNatClampNeg) 716 9 (717 + 6)) (21 : Int32).toNatClampNeg) 716 10 (717 + 7)) (21 : Int32).toNatClampNeg) 716 11 (717 + 8)) (21 : Int32).toNatClampNeg) 716 12 (717 + 9)) (11 : Int32).toNatClampNeg) 716 13 (717 + 10)) (11 : Int32).toNatClampNeg) 716 14 (717 + 11)) (5 : Int32).toNatClampNeg) 716 15 (717 + 12)) (5 : Int32).toNatClampNeg) 716 16 (717 + 13)) (5 : Int32).toNatClampNeg) 716 17 (717 + 14)) = x := ⟨_, rfl⟩
  rw [hmm]
  refine gW_retV ⟨⟨?_, ?_, ?_, fun a ha => ?_⟩, ?_, ?_, ?_, ?_, ?_, ?_, ?_, ?_, ?_, ?_, ?_, ?_, ?_, ?_, ?_, ?_, ?_⟩
  · rw [← hmm]; simp only [gN_wR, gN_al, hN]
  · rw [← hmm]; simp only [gU_wR, gU_al]; rfl
  · rw [← hmm]; simp only [gL_wR, gL_al]
  · have ha' : a ≠ 716 := by omega
    rw [← hmm, gR_wR_f ha', gR_alf, gR_wR_f ha', gR_alf, gR_wR_f ha', gR_alf, gR_wR_f ha', gR_alf, gR_wR_f ha', gR_alf, gR_wR_f ha', gR_alf, gR_wR_f ha', gR_alf, gR_wR_f ha', gR_alf, gR_wR_f ha', gR_alf, gR_wR_f ha', gR_alf, gR_wR_f ha', gR_alf, gR_wR_f ha', gR_alf, gR_wR_f ha', gR_alf, gR_wR_f ha', gR_alf, gR_wR_f ha', gR_alf]
  · rw [← hmm]; simp only [gI_wRf, gI_alf]
  · rw [← hmm]; simp only [gJ_wRf, gJ_alf]
  · rw [← hmm, gR_wR_k (by decide), gR_al, gR_wR_k (by decide), gR_al, gR_wR_k (by decide), gR_al, gR_wR_k (by decide), gR_al, gR_wR_k (by decide), gR_al, gR_wR_k (by decide), gR_al, gR_wR_k (by decide), gR_al, gR_wR_k (by decide), gR_al, gR_wR_k (by decide), gR_al, gR_wR_k (by decide), gR_al, gR_wR_k (by decide), gR_al, gR_wR_k (by decide), gR_al, gR_wR_k (by decide), gR_al, gR_wR_k (by decide), gR_al, gR_wR_s]
  · rw [← hmm, gR_wR_k (by decide), gR_al, gR_wR_k (by decide), gR_al, gR_wR_k (by decide), gR_al, gR_wR_k (by decide), gR_al, gR_wR_k (by decide), gR_al, gR_wR_k (by decide), gR_al, gR_wR_k (by decide), gR_al, gR_wR_k (by decide), gR_al, gR_wR_k (by decide), gR_al, gR_wR_k (by decide), gR_al, gR_wR_k (by decide), gR_al, gR_wR_k (by decide), gR_al, gR_wR_k (by decide), gR_al, gR_wR_s]
  · rw [← hmm, gR_wR_k (by decide), gR_al, gR_wR_k (by decide), gR_al, gR_wR_k (by decide), gR_al, gR_wR_k (by decide), gR_al, gR_wR_k (by decide), gR_al, gR_wR_k (by decide), gR_al, gR_wR_k (by decide), gR_al, gR_wR_k (by decide), gR_al, gR_wR_k (by decide), gR_al, gR_wR_k (by decide), gR_al, gR_wR_k (by decide), gR_al, gR_wR_k (by decide), gR_al, gR_wR_s]
  · rw [← hmm, gR_wR_k (by decide), gR_al, gR_wR_k (by decide), gR_al, gR_wR_k (by decide), gR_al, gR_wR_k (by decide), gR_al, gR_wR_k (by decide), gR_al, gR_wR_k (by decide), gR_al, gR_wR_k (by decide), gR_al, gR_wR_k (by decide), gR_al, gR_wR_k (by decide), gR_al, gR_wR_k (by decide), gR_al, gR_wR_k (by decide), gR_al, gR_wR_s]
  · rw [← hmm, gR_wR_k (by decide), gR_al, gR_wR_k (by decide), gR_al, gR_wR_k (by decide), gR_al, gR_wR_k (by decide), gR_al, gR_wR_k (by decide), gR_al, gR_wR_k (by decide), gR_al, gR_wR_k (by decide), gR_al, gR_wR_k (by decide), gR_al, gR_wR_k (by decide), gR_al, gR_wR_k (by decide), gR_al, gR_wR_s]
  · rw [← hmm, gR_wR_k (by decide), gR_al, gR_wR_k (by decide), gR_al, gR_wR_k (by decide), gR_al, gR_wR_k (by decide), gR_al, gR_wR_k (by decide), gR_al, gR_wR_k (by decide), gR_al, gR_wR_k (by decide), gR_al, gR_wR_k (by decide), gR_al, gR_wR_k (by decide), gR_al, gR_wR_s]
  · rw [← hmm, gR_wR_k (by decide), gR_al, gR_wR_k (by decide), gR_al, gR_wR_k (by decide), gR_al, gR_wR_k (by decide), gR_al, gR_wR_k (by decide), gR_al, gR_wR_k (by decide), gR_al, gR_wR_k (by decide), gR_al, gR_wR_k (by decide), gR_al, gR_wR_s]
  · rw [← hmm, gR_wR_k (by decide), gR_al, gR_wR_k (by decide), gR_al, gR_wR_k (by decide), gR_al, gR_wR_k (by decide), gR_al, gR_wR_k (by decide), gR_al, gR_wR_k (by decide), gR_al, gR_wR_k (by decide), gR_al, gR_wR_s]
  · rw [← hmm, gR_wR_k (by decide), gR_al, gR_wR_k (by decide), gR_al, gR_wR_k (by decide), gR_al, gR_wR_k (by decide), gR_al, gR_wR_k (by decide), gR_al, gR_wR_k (by decide), gR_al, gR_wR_s]
  · rw [← hmm, gR_wR_k (by decide), gR_al, gR_wR_k (by decide), gR_al, gR_wR_k (by decide), gR_al, gR_wR_k (by decide), gR_al, gR_wR_k (by decide), gR_al, gR_wR_s]
  · rw [← hmm, gR_wR_k (by decide), gR_al, gR_wR_k (by decide), gR_al, gR_wR_k (by decide), gR_al, gR_wR_k (by decide), gR_al, gR_wR_s]
  · rw [← hmm, gR_wR_k (by decide), gR_al, gR_wR_k (by decide), gR_al, gR_wR_k (by decide), gR_al, gR_wR_s]
  · rw [← hmm, gR_wR_k (by decide), gR_al, gR_wR_k (by decide), gR_al, gR_wR_s]
  · rw [← hmm, gR_wR_k (by decide), gR_al, gR_wR_s]
  · rw [← hmm, gR_wR_s]
/-- what clear needs of a code -/
def kCl (d : Nat) (m : gd_M) : Prop := gd_ok (gN m) d 1 = true ∧ gR m d 8 = d + 9 ∧ gR m d 9 = d + 10 ∧ gR m d 10 = d + 11 ∧ gR m d 11 = d + 12 ∧ (∀ i, gd_okA (gN m) (d + 9) 10 i = gd_in i 5) ∧ (∀ i, gd_okA (gN m) (d + 10) 10 i = gd_in i 5) ∧ (∀ i, gd_okA (gN m) (d + 11) 10 i = gd_in i 5) ∧ ∀ i, gd_okA (gN m) (d + 12) 10 i = gd_in i 12
theorem k_clear_17 {d : Nat} : ∀ j i (m : gd_M), i + j = 5 → kCl d m → ∃ m', gd_Den (11, 17, [.ref d, .int (Int32.ofNat i)], [], m) = some (.null, m') ∧ m'.2 = m.2 ∧ (∀ a, a ≠ d + 9 → a ≠ d + 10 → a ≠ d + 11 → a ≠ d + 12 → gI m' a = gI m a) ∧ (∀ g, i ≤ g → g < 5 → gI m' (d + 9) g = 0 ∧ gI m' (d + 10) g = 0 ∧ gI m' (d + 11) g = -1) ∧ (∀ g, g < i → gI m' (d + 9) g = gI m (d + 9) g ∧ gI m' (d + 10) g = gI m (d + 10) g ∧ gI m' (d + 11) g = gI m (d + 11) g) ∧ gI m' (d + 12) 3 = 4 ∧ gI m' (d + 12) 4 = 3 ∧ gI m' (d + 12) 5 = 8 ∧ gI m' (d + 12) 6 = 0 ∧ gI m' (d + 12) 7 = 0 ∧ gI m' (d + 12) 8 = 4 ∧ gI m' (d + 12) 9 = 3 ∧ gI m' (d + 12) 10 = 8 ∧ gI m' (d + 12) 11 = 2 := by
  intro j
  induction j with
  | zero =>
    intro i m h K
    obtain ⟨k1, k2, k3, k4, k5, k6, k7, k8, k9⟩ := id K
    have : i = 5 := by omega
    subst this
    rw [q_Co_clear_17, if_neg (show ¬ Int32.ofNat 5 < 5 by decide)]
    simp only [k1, k2, k3, k4, k5, k6, k7, k8, k9, if_true, eq_self, show gd_in 3 12 = true from by decide, show gd_in 4 12 = true from by decide, show gd_in 5 12 = true from by decide, show gd_in 6 12 = true from by decide, show gd_in 7 12 = true from by decide, show gd_in 8 12 = true from by decide, show gd_in 9 12 = true from by decide, show gd_in 10 12 = true from by decide, show gd_in 11 12 = true from by decide, show (3 : Int32).toNatClampNeg = 3 from rfl, show (4 : Int32).toNatClampNeg = 4 from rfl, show (5 : Int32).toNatClampNeg = 5 from rfl, show (6 : Int32).toNatClampNeg = 6 from rfl, show (7 : Int32).toNatClampNeg = 7 from rfl, show (8 : Int32).toNatClampNeg = 8 from rfl, show (9 : Int32).toNatClampNeg = 9 from rfl, show (10 : Int32).toNatClampNeg = 10 from rfl, show (11 : Int32).toNatClampNeg = 11 from rfl]
    refine ⟨_, rfl, rfl, fun a h1 h2 h3 h4 => ?_, fun g h1 h2 => by omega, fun g h1 => ⟨?_, ?_, ?_⟩, ?_, ?_, ?_, ?_, ?_, ?_, ?_, ?_, ?_⟩
    · rw [gI_wI_f h4, gI_wI_f h4, gI_wI_f h4, gI_wI_f h4, gI_wI_f h4, gI_wI_f h4, gI_wI_f h4, gI_wI_f h4, gI_wI_f h4]
    · rw [gI_wI_a (by omega), gI_wI_a (by omega), gI_wI_a (by omega), gI_wI_a (by omega), gI_wI_a (by omega), gI_wI_a (by omega), gI_wI_a (by omega), gI_wI_a (by omega), gI_wI_a (by omega)]
    · rw [gI_wI_a (by omega), gI_wI_a (by omega), gI_wI_a (by omega), gI_wI_a (by omega), gI_wI_a (by omega), gI_wI_a (by omega), gI_wI_a (by omega), gI_wI_a (by omega), gI_wI_a (by omega)]
    · rw [gI_wI_a (by omega), gI_wI_a (by omega), gI_wI_a (by omega), gI_wI_a (by omega), gI_wI_a (by omega), gI_wI_a (by omega), gI_wI_a (by omega), gI_wI_a (by omega), gI_wI_a (by omega)]
    · rw [gI_wI_k (by decide), gI_wI_k (by decide), gI_wI_k (by decide), gI_wI_k (by decide), gI_wI_k (by decide), gI_wI_k (by decide), gI_wI_k (by decide), gI_wI_k (by decide), gI_wI_s]
    · rw [gI_wI_k (by decide), gI_wI_k (by decide), gI_wI_k (by decide), gI_wI_k (by decide), gI_wI_k (by decide), gI_wI_k (by decide), gI_wI_k (by decide), gI_wI_s]
    · rw [gI_wI_k (by decide), gI_wI_k (by decide), gI_wI_k (by decide), gI_wI_k (by decide), gI_wI_k (by decide), gI_wI_k (by decide), gI_wI_s]
    · rw [gI_wI_k (by decide), gI_wI_k (by decide), gI_wI_k (by decide), gI_wI_k (by decide), gI_wI_k (by decide), gI_wI_s]
    · rw [gI_wI_k (by decide), gI_wI_k (by decide), gI_wI_k (by decide), gI_wI_k (by decide), gI_wI_s]
    · rw [gI_wI_k (by decide), gI_wI_k (by decide), gI_wI_k (by decide), gI_wI_s]
    · rw [gI_wI_k (by decide), gI_wI_k (by decide), gI_wI_s]
    · rw [gI_wI_k (by decide), gI_wI_s]
    · rw [gI_wI_s]
  | succ j ih =>
    intro i m h K
    obtain ⟨k1, k2, k3, k4, k5, k6, k7, k8, k9⟩ := id K
    have i1 : gd_in (Int32.ofNat i) 5 = true := gn_in (by omega) (by omega)
    have n1 : (Int32.ofNat i).toNatClampNeg = i := gn_nat (by omega)
    rw [q_Co_clear_17, if_pos ((gnlb_5 (by omega) (by decide)).2 (by omega))]
    simp only [k1, k2, k3, k4, k5, k6, k7, k8, k9, if_true, eq_self, i1, n1, gn_succ]
    obtain ⟨m', a1, a2, a3, a4, a5, a6⟩ := ih (i + 1) (wI (wI (wI m (d + 9) i 0) (d + 10) i 0) (d + 11) i (-1)) (by omega) K
    refine ⟨m', a1, a2, fun a h1 h2 h3 h4 => ?_, fun g h1 h2 => ?_, fun g h1 => ?_, a6⟩
    · rw [a3 a h1 h2 h3 h4, gI_wI_f h3, gI_wI_f h2, gI_wI_f h1]
    · by_cases e : g = i
      · obtain ⟨b1, b2, b3⟩ := a5 g (by omega)
        rw [b1, b2, b3, e]
        refine ⟨?_, ?_, gI_wI_s⟩
        · rw [gI_wI_a (by omega), gI_wI_a (by omega), gI_wI_s]
        · rw [gI_wI_a (by omega), gI_wI_s]
      · exact a4 g (by omega) h2
    · obtain ⟨b1, b2, b3⟩ := a5 g (by omega)
      rw [b1, b2, b3]
      refine ⟨?_, ?_, ?_⟩
      · rw [gI_wI_a (by omega), gI_wI_a (by omega), gI_wI_k (by omega)]
      · rw [gI_wI_a (by omega), gI_wI_k (by omega), gI_wI_a (by omega)]
      · rw [gI_wI_k (by omega), gI_wI_a (by omega), gI_wI_a (by omega)]

theorem k_clear {d : Nat} {m : gd_M} (K : kCl d m) (hd : 31 < d) : ∃ m', gd_call 11 [.ref d] m = some (.null, m') ∧ m'.2 = m.2 ∧ (∀ a, (a < d ∨ d + 12 < a) → gI m' a = gI m a) ∧ iniX d (gI m') := by
  obtain ⟨k1, -⟩ := id K
  obtain ⟨m', a1, a2, a3, a4, a5, a6⟩ := k_clear_17 (d := d) 5 0 (wI (wI (wI m d 12 0) d 13 0) d 14 0) (by omega) K
  rw [gn_0] at a1
  have ed : gI m' d = gI (wI (wI (wI m d 12 0) d 13 0) d 14 0) d := a3 d (by omega) (by omega) (by omega) (by omega)
  refine ⟨m', ?_, a2, fun a ha => ?_, ?_, ?_, ?_, fun g hg => a4 g (Nat.zero_le g) hg, a6⟩
  · rw [q_Co_clear]
    rw [if_pos k1]
    exact a1
  · rw [a3 a (by omega) (by omega) (by omega) (by omega), gI_wI_f (by omega), gI_wI_f (by omega), gI_wI_f (by omega)]
  · rw [ed, gI_wI_k (by decide), gI_wI_k (by decide), gI_wI_s]
  · rw [ed, gI_wI_k (by decide), gI_wI_s]
  · rw [ed, gI_wI_s]

theorem gokA_l {N a k l : Nat} {i : Int32} (h1 : gd_KD a = k) (h2 : a < N) (h3 : gd_LN a = l) : gd_okA N a k i = gd_in i l := by unfold gd_okA; rw [h1, decide_eq_true h2, h3, Nat.beq_refl]; rfl
theorem k_Co0 (m : gd_M) (hN : gN m = 33) : gW (gd_call 12 [.ref 32] m) (qV fun m' => iC 32 45 197 m m' ∧ (∀ a, (a < 32 ∨ 44 < a) → gI m' a = gI m a) ∧ gJ m' = gJ m ∧ iniX 32 (gI m') ∧ gR m' 32 0 = 33 ∧ gR m' 32 1 = 34 ∧ gR m' 32 2 = 35 ∧ gR m' 32 3 = 36 ∧ gR m' 32 4 = 37 ∧ gR m' 32 5 = 38 ∧ gR m' 32 6 = 39 ∧ gR m' 32 7 = 40 ∧ gR m' 32 8 = 41 ∧ gR m' 32 9 = 42 ∧ gR m' 32 10 = 43 ∧ gR m' 32 11 = 44) := by
  refine gW_eq (q_Co_init 32 m) ?_
  rw [hN]
  repeat refine gW_g (by decide +kernel) ?_
  obtain ⟨mm, hmm⟩ : ∃ x, (wR (gd_al (wR (gd_al (wR (gd_al (wR (gd_al (wR (gd_al (wR (gd_al (wR (gd_al (wR (gd_al (wR (gd_al (wR (gd_al (wR (gd_al (wR (gd_al m (30 : Int32).toNatClampNeg) 32 0 (33)) (30 : Int32).toNatClampNeg) 32 1 (33 + 1)) (30 : Int32).toNatClampNeg) 32 2 (33 + 2)) (20 : Int32).toNatClampNeg) 32 3 (33 + 3)) (20 : Int32).toNatClampNeg) 32 4 (33 + 4)) (20 : Int32).toNatClampNeg) 32 5 (33 + 5)) (10 : Int32).toNatClampNeg) 32 6 (33 + 6)) (10 : Int32).toNatClampNeg) 32 7 (33 + 7)) (5 : Int32).toNatClampNeg) 32 8 (33 + 8)) (5 : Int32).toNatClampNeg) 32 9 (33 + 9)) (5 : Int32).toNatClampNeg) 32 10 (33 + 10)) (12 : Int32).toNatClampNeg) 32 11 (33 + 11)) = x := ⟨_, rfl⟩
  rw [hmm]
  have hn : gN mm = 45 := by rw [← hmm]; simp only [gN_wR, gN_al, hN]
  have r0 : gR mm 32 0 = 33 := by rw [← hmm, gR_wR_k (by decide), gR_al, gR_wR_k (by decide), gR_al, gR_wR_k (by decide), gR_al, gR_wR_k (by decide), gR_al, gR_wR_k (by decide), gR_al, gR_wR_k (by decide), gR_al, gR_wR_k (by decide), gR_al, gR_wR_k (by decide), gR_al, gR_wR_k (by decide), gR_al, gR_wR_k (by decide), gR_al, gR_wR_k (by decide), gR_al, gR_wR_s]
  have r1 : gR mm 32 1 = 34 := by rw [← hmm, gR_wR_k (by decide), gR_al, gR_wR_k (by decide), gR_al, gR_wR_k (by decide), gR_al, gR_wR_k (by decide), gR_al, gR_wR_k (by decide), gR_al, gR_wR_k (by decide), gR_al, gR_wR_k (by decide), gR_al, gR_wR_k (by decide), gR_al, gR_wR_k (by decide), gR_al, gR_wR_k (by decide), gR_al, gR_wR_s]
  have r2 : gR mm 32 2 = 35 := by rw [← hmm, gR_wR_k (by decide), gR_al, gR_wR_k (by decide), gR_al, gR_wR_k (by decide), gR_al, gR_wR_k (by decide), gR_al, gR_wR_k (by decide), gR_al, gR_wR_k (by decide), gR_al, gR_wR_k (by decide), gR_al, gR_wR_k (by decide), gR_al, gR_wR_k (by decide), gR_al, gR_wR_s]
  have r3 : gR mm 32 3 = 36 := by rw [← hmm, gR_wR_k (by decide), gR_al, gR_wR_k (by decide), gR_al, gR_wR_k (by decide), gR_al, gR_wR_k (by decide), gR_al, gR_wR_k (by decide), gR_al, gR_wR_k (by decide), gR_al, gR_wR_k (by decide), gR_al, gR_wR_k (by decide), gR_al, gR_wR_s]
  have r4 : gR mm 32 4 = 37 := by rw [← hmm, gR_wR_k (by decide), gR_al, gR_wR_k (by decide), gR_al, gR_wR_k (by decide), gR_al, gR_wR_k (by decide), gR_al, gR_wR_k (by decide), gR_al, gR_wR_k (by decide), gR_al, gR_wR_k (by decide), gR_al, gR_wR_s]
  have r5 : gR mm 32 5 = 38 := by rw [← hmm, gR_wR_k (by decide), gR_al, gR_wR_k (by decide), gR_al, gR_wR_k (by decide), gR_al, gR_wR_k (by decide), gR_al, gR_wR_k (by decide), gR_al, gR_wR_k (by decide), gR_al, gR_wR_s]
  have r6 : gR mm 32 6 = 39 := by rw [← hmm, gR_wR_k (by decide), gR_al, gR_wR_k (by decide), gR_al, gR_wR_k (by decide), gR_al, gR_wR_k (by decide), gR_al, gR_wR_k (by decide), gR_al, gR_wR_s]
  have r7 : gR mm 32 7 = 40 := by rw [← hmm, gR_wR_k (by decide), gR_al, gR_wR_k (by decide), gR_al, gR_wR_k (by decide), gR_al, gR_wR_k (by decide), gR_al, gR_wR_s]
  have r8 : gR mm 32 8 = 41 := by rw [← hmm, gR_wR_k (by decide), gR_al, gR_wR_k (by decide), gR_al, gR_wR_k (by decide), gR_al, gR_wR_s]
  have r9 : gR mm 32 9 = 42 := by rw [← hmm, gR_wR_k (by decide), gR_al, gR_wR_k (by decide), gR_al, gR_wR_s]
  have r10 : gR mm 32 10 = 43 := by rw [← hmm, gR_wR_k (by decide), gR_al, gR_wR_s]
  have r11 : gR mm 32 11 = 44 := by rw [← hmm, gR_wR_s]
  have hI : gI mm = gI m := by rw [← hmm]; simp only [gI_wRf, gI_alf]
  have hJ : gJ mm = gJ m := by rw [← hmm]; simp only [gJ_wRf, gJ_alf]
  have hU : gU mm = gU m + 197 := by rw [← hmm]; simp only [gU_wR, gU_al]; rfl
  have hL : gL mm = gL m := by rw [← hmm]; simp only [gL_wR, gL_al]
  have hF : ∀ a, a ≠ 32 → gR mm a = gR m a := fun a ha => by rw [← hmm, gR_wR_f ha, gR_alf, gR_wR_f ha, gR_alf, gR_wR_f ha, gR_alf, gR_wR_f ha, gR_alf, gR_wR_f ha, gR_alf, gR_wR_f ha, gR_alf, gR_wR_f ha, gR_alf, gR_wR_f ha, gR_alf, gR_wR_f ha, gR_alf, gR_wR_f ha, gR_alf, gR_wR_f ha, gR_alf, gR_wR_f ha, gR_alf]
  have hK : kCl 32 mm := ⟨by rw [hn]; decide +kernel, r8, r9, r10, r11, fun i => by rw [hn]; exact gokA_l (by decide +kernel) (by decide) (by decide +kernel), fun i => by rw [hn]; exact gokA_l (by decide +kernel) (by decide) (by decide +kernel), fun i => by rw [hn]; exact gokA_l (by decide +kernel) (by decide) (by decide +kernel), fun i => by rw [hn]; exact gokA_l (by decide +kernel) (by decide) (by decide +kernel)⟩
  obtain ⟨m', a1, a2, a3, a4⟩ := k_clear hK (by decide)
  have e2 : m'.2.2 = mm.2.2 := congrArg (fun t => t.2) a2
  have eJ : gJ m' = gJ mm := congrArg (fun t => t.1) a2
  have eR : gR m' = gR mm := gR_e e2
  refine gW_kVe a1 (gW_retV ⟨⟨(gN_e e2).trans hn, (gU_e e2).trans hU, (gL_e e2).trans hL, fun a ha => ?_⟩, fun a ha => (a3 a ha).trans (congrFun hI a), eJ.trans hJ, a4, ?_, ?_, ?_, ?_, ?_, ?_, ?_, ?_, ?_, ?_, ?_, ?_⟩)
  · rw [eR]; exact hF a (by omega)
  · rw [eR]; exact r0
  · rw [eR]; exact r1
  · rw [eR]; exact r2
  · rw [eR]; exact r3
  · rw [eR]; exact r4
  · rw [eR]; exact r5
  · rw [eR]; exact r6
  · rw [eR]; exact r7
  · rw [eR]; exact r8
  · rw [eR]; exact r9
  · rw [eR]; exact r10
  · rw [eR]; exact r11
theorem k_Co1 (m : gd_M) (hN : gN m = 46) : gW (gd_call 12 [.ref 45] m) (qV fun m' => iC 45 58 197 m m' ∧ (∀ a, (a < 45 ∨ 57 < a) → gI m' a = gI m a) ∧ gJ m' = gJ m ∧ iniX 45 (gI m') ∧ gR m' 45 0 = 46 ∧ gR m' 45 1 = 47 ∧ gR m' 45 2 = 48 ∧ gR m' 45 3 = 49 ∧ gR m' 45 4 = 50 ∧ gR m' 45 5 = 51 ∧ gR m' 45 6 = 52 ∧ gR m' 45 7 = 53 ∧ gR m' 45 8 = 54 ∧ gR m' 45 9 = 55 ∧ gR m' 45 10 = 56 ∧ gR m' 45 11 = 57) := by
  refine gW_eq (q_Co_init 45 m) ?_
  rw [hN]
  repeat refine gW_g (by decide +kernel) ?_
  obtain ⟨mm, hmm⟩ : ∃ x, (wR (gd_al (wR (gd_al (wR (gd_al (wR (gd_al (wR (gd_al (wR (gd_al (wR (gd_al (wR (gd_al (wR (gd_al (wR (gd_al (wR (gd_al (wR (gd_al m (30 : Int32).toNatClampNeg) 45 0 (46)) (30 : Int32).toNatClampNeg) 45 1 (46 + 1)) (30 : Int32).toNatClampNeg) 45 2 (46 + 2)) (20 : Int32).toNatClampNeg) 45 3 (46 + 3)) (20 : Int32).toNatClampNeg) 45 4 (46 + 4)) (20 : Int32).toNatClampNeg) 45 5 (46 + 5)) (10 : Int32).toNatClampNeg) 45 6 (46 + 6)) (10 : Int32).toNatClampNeg) 45 7 (46 + 7)) (5 : Int32).toNatClampNeg) 45 8 (46 + 8)) (5 : Int32).toNatClampNeg) 45 9 (46 + 9)) (5 : Int32).toNatClampNeg) 45 10 (46 + 10)) (12 : Int32).toNatClampNeg) 45 11 (46 + 11)) = x := ⟨_, rfl⟩
  rw [hmm]
  have hn : gN mm = 58 := by rw [← hmm]; simp only [gN_wR, gN_al, hN]
  have r0 : gR mm 45 0 = 46 := by rw [← hmm, gR_wR_k (by decide), gR_al, gR_wR_k (by decide), gR_al, gR_wR_k (by decide), gR_al, gR_wR_k (by decide), gR_al, gR_wR_k (by decide), gR_al, gR_wR_k (by decide), gR_al, gR_wR_k (by decide), gR_al, gR_wR_k (by decide), gR_al, gR_wR_k (by decide), gR_al, gR_wR_k (by decide), gR_al, gR_wR_k (by decide), gR_al, gR_wR_s]
  have r1 : gR mm 45 1 = 47 := by rw [← hmm, gR_wR_k (by decide), gR_al, gR_wR_k (by decide), gR_al, gR_wR_k (by decide), gR_al, gR_wR_k (by decide), gR_al, gR_wR_k (by decide), gR_al, gR_wR_k (by decide), gR_al, gR_wR_k (by decide), gR_al, gR_wR_k (by decide), gR_al, gR_wR_k (by decide), gR_al, gR_wR_k (by decide), gR_al, gR_wR_s]
  have r2 : gR mm 45 2 = 48 := by rw [← hmm, gR_wR_k (by decide), gR_al, gR_wR_k (by decide), gR_al, gR_wR_k (by decide), gR_al, gR_wR_k (by decide), gR_al, gR_wR_k (by decide), gR_al, gR_wR_k (by decide), gR_al, gR_wR_k (by decide), gR_al, gR_wR_k (by decide), gR_al, gR_wR_k (by decide), gR_al, gR_wR_s]
  have r3 : gR mm 45 3 = 49 := by rw [← hmm, gR_wR_k (by decide), gR_al, gR_wR_k (by decide), gR_al, gR_wR_k (by decide), gR_al, gR_wR_k (by decide), gR_al, gR_wR_k (by decide), gR_al, gR_wR_k (by decide), gR_al, gR_wR_k (by decide), gR_al, gR_wR_k (by decide), gR_al, gR_wR_s]
  have r4 : gR mm 45 4 = 50 := by rw [← hmm, gR_wR_k (by decide), gR_al, gR_wR_k (by decide), gR_al, gR_wR_k (by decide), gR_al, gR_wR_k (by decide), gR_al, gR_wR_k (by decide), gR_al, gR_wR_k (by decide), gR_al, gR_wR_k (by decide), gR_al, gR_wR_s]
  have r5 : gR mm 45 5 = 51 := by rw [← hmm, gR_wR_k (by decide), gR_al, gR_wR_k (by decide), gR_al, gR_wR_k (by decide), gR_al, gR_wR_k (by decide), gR_al, gR_wR_k (by decide), gR_al, gR_wR_k (by decide), gR_al, gR_wR_s]
  have r6 : gR mm 45 6 = 52 := by rw [← hmm, gR_wR_k (by decide), gR_al, gR_wR_k (by decide), gR_al, gR_wR_k (by decide), gR_al, gR_wR_k (by decide), gR_al, gR_wR_k (by decide), gR_al, gR_wR_s]
  have r7 : gR mm 45 7 = 53 := by rw [← hmm, gR_wR_k (by decide), gR_al, gR_wR_k (by decide), gR_al, gR_wR_k (by decide), gR_al, gR_wR_k (by decide), gR_al, gR_wR_s]
  have r8 : gR mm 45 8 = 54 := by rw [← hmm, gR_wR_k (by decide), gR_al, gR_wR_k (by decide), gR_al, gR_wR_k (by decide), gR_al, gR_wR_s]
  have r9 : gR mm 45 9 = 55 := by rw [← hmm, gR_wR_k (by decide), gR_al, gR_wR_k (by decide), gR_al, gR_wR_s]
  have r10 : gR mm 45 10 = 56 := by rw [← hmm, gR_wR_k (by decide), gR_al, gR_wR_s]
  have r11 : gR mm 45 11 = 57 := by rw [← hmm, gR_wR_s]
  have hI : gI mm = gI m := by rw [← hmm]; simp only [gI_wRf, gI_alf]
  have hJ : gJ mm = gJ m := by rw [← hmm]; simp only [gJ_wRf, gJ_alf]
  have hU : gU mm = gU m + 197 := by rw [← hmm]; simp only [gU_wR, gU_al]; rfl
  have hL : gL mm = gL m := by rw [← hmm]; simp only [gL_wR, gL_al]
  have hF : ∀ a, a ≠ 45 → gR mm a = gR m a := fun a ha => by rw [← hmm, gR_wR_f ha, gR_alf, gR_wR_f ha, gR_alf, gR_wR_f ha, gR_alf, gR_wR_f ha, gR_alf, gR_wR_f ha, gR_alf, gR_wR_f ha, gR_alf, gR_wR_f ha, gR_alf, gR_wR_f ha, gR_alf, gR_wR_f ha, gR_alf, gR_wR_f ha, gR_alf, gR_wR_f ha, gR_alf, gR_wR_f ha, gR_alf]
  have hK : kCl 45 mm := ⟨by rw [hn]; decide +kernel, r8, r9, r10, r11, fun i => by rw [hn]; exact gokA_l (by decide +kernel) (by decide) (by decide +kernel), fun i => by rw [hn]; exact gokA_l (by decide +kernel) (by decide) (by decide +kernel), fun i => by rw [hn]; exact gokA_l (by decide +kernel) (by decide) (by decide +kernel), fun i => by rw [hn]; exact gokA_l (by decide +kernel) (by decide) (by decide +kernel)⟩
  obtain ⟨m', a1, a2, a3, a4⟩ := k_clear hK (by decide)
  have e2 : m'.2.2 = mm.2.2 := congrArg (fun t => t.2) a2
  have eJ : gJ m' = gJ mm := congrArg (fun t => t.1) a2
  have eR : gR m' = gR mm := gR_e e2
  refine gW_kVe a1 (gW_retV ⟨⟨(gN_e e2).trans hn, (gU_e e2).trans hU, (gL_e e2).trans hL, fun a ha => ?_⟩, fun a ha => (a3 a ha).trans (congrFun hI a), eJ.trans hJ, a4, ?_, ?_, ?_, ?_, ?_, ?_, ?_, ?_, ?_, ?_, ?_, ?_⟩)
  · rw [eR]; exact hF a (by omega)
  · rw [eR]; exact r0
  · rw [eR]; exact r1
  · rw [eR]; exact r2
  · rw [eR]; exact r3
  · rw [eR]; exact r4
  · rw [eR]; exact r5
  · rw [eR]; exact r6
  · rw [eR]; exact r7
  · rw [eR]; exact r8
  · rw [eR]; exact r9
  · rw [eR]; exact r10
  · rw [eR]; exact r11
theorem k_St (m : gd_M) (hN : gN m = 700) : gW (gd_call 18 [.ref 699] m) (qV fun m' => iC 699 700 0 m m' ∧ gI m' = gI m ∧ gJ m' = gJ m) := by
  refine gW_eq (q_St_init 699 m) ?_
  rw [if_pos (show Nat.ble 8 699 = true from rfl), q_Rt_init, if_pos (show Nat.ble 8 699 = true from rfl), q_Ex_init, if_pos (show Nat.ble 8 699 = true from rfl), q_Th_init, if_pos (show Nat.ble 8 699 = true from rfl), hN, if_pos (show gd_ok 700 699 8 = true by decide +kernel), if_pos rfl, if_pos rfl]
  simp only [Option.bind_some, gd_k0V_v]
  refine gW_retV ⟨⟨hN, rfl, rfl, fun a ha => ?_⟩, rfl, rfl⟩
  have ha' : a ≠ 699 := by omega
  funext k
  simp only [gR_wR, ha', false_and, if_false]
theorem k_Ro {i : Nat} (hi : i < 160) (m : gd_M) (hN : gN m = 59 + 4 * i) : gd_call 13 [.ref (58 + 4 * i)] m = some (.null, wR (gd_al (wR (gd_al (wR (gd_al m 16) (58 + 4 * i) 0 (59 + 4 * i)) 6) (58 + 4 * i) 1 (60 + 4 * i)) 10) (58 + 4 * i) 2 (61 + 4 * i)) := by
  obtain ⟨d1, d2, d3, d4⟩ := gd_KD_row hi
  obtain ⟨l1, l2, l3⟩ := gd_LN_row hi
  have e1 : 59 + 4 * i + 1 = 60 + 4 * i := by omega
  have e2 : 59 + 4 * i + 2 = 61 + 4 * i := by omega
  rw [q_Ro_init, hN, e1, e2, d2, d3, d4, l1, l2, l3, if_pos (show Nat.ble 8 (58 + 4 * i) = true from Nat.ble_eq_true_of_le (by omega)), if_pos (by decide), if_pos (gd_ok_t d1 (by omega)), if_pos (by decide), if_pos (gd_ok_t d1 (by omega)), if_pos (by decide), if_pos (gd_ok_t d1 (by omega))]
  rfl
theorem k_rows : ∀ j i (m : gd_M), i + j = 160 → gN m = 58 + 4 * i → gR m 8 4 = 27 → ∃ m', gd_Den (14, 112, [.ref 8, .int (Int32.ofNat i)], [], m) = some (.null, m') ∧ gN m' = 698 ∧ gU m' = gU m + 47 * j ∧ gL m' = gL m ∧ gI m' = gI m ∧ gJ m' = gJ m ∧ (∀ r, i ≤ r → r < 160 → gR m' 27 r = 58 + 4 * r ∧ gR m' (58 + 4 * r) 0 = 59 + 4 * r ∧ gR m' (58 + 4 * r) 1 = 60 + 4 * r ∧ gR m' (58 + 4 * r) 2 = 61 + 4 * r) ∧ ∀ a k, a < 58 + 4 * i → (a ≠ 27 ∨ k < i) → gR m' a k = gR m a k := by
  have k8 : gd_KD 8 = 6 := by decide +kernel
  have k27 : gd_KD 27 = 14 := by decide +kernel
  have l27 : gd_LN 27 = 160 := by decide +kernel
  intro j
  induction j with
  | zero =>
    intro i m h hN h84
    have : i = 160 := by omega
    subst this
    refine ⟨m, ?_, hN, rfl, rfl, rfl, rfl, fun r h1 h2 => by omega, fun _ _ _ _ => rfl⟩
    rw [q_X_init_112, h84, hN, k27, l27, if_pos (gd_ok_t k8 (by decide)), if_pos (by decide), if_neg Int32.lt_irrefl]
  | succ j ih =>
    intro i m h hN h84
    have hi : i < 160 := by omega
    obtain ⟨d1, d2, d3, d4⟩ := gd_KD_row hi
    rw [q_X_init_112, h84, hN, k27, l27, d1, if_pos (gd_ok_t k8 (by omega)), if_pos (by rw [decide_eq_true (show 27 < 58 + 4 * i by omega)]; rfl), if_pos ((gn_lt (by omega) (by decide)).2 hi), if_pos (by decide), if_pos (show Nat.ble 8 (58 + 4 * i) = true from Nat.ble_eq_true_of_le (by omega)), k_Ro hi (gd_al m 15) (by rw [gN_al, hN]; omega)]
    simp only [Option.bind_some, gd_k0V_v]
    have hN8 : gN (wR (gd_al (wR (gd_al (wR (gd_al (gd_al m 15) 16) (58 + 4 * i) 0 (59 + 4 * i)) 6) (58 + 4 * i) 1 (60 + 4 * i)) 10) (58 + 4 * i) 2 (61 + 4 * i)) = 58 + 4 * (i + 1) := by
      simp only [gN_wR, gN_al, hN]; omega
    rw [hN8, if_pos (by rw [gd_okA_t k27 (by omega) l27 (gn_in (by omega) hi), gd_ok_t d1 (by omega)]; rfl), gn_nat (by omega), gn_succ]
    obtain ⟨m', a1, a2, a3, a4, a5, a6, a7, a8⟩ := ih (i + 1) (wR (wR (gd_al (wR (gd_al (wR (gd_al (gd_al m 15) 16) (58 + 4 * i) 0 (59 + 4 * i)) 6) (58 + 4 * i) 1 (60 + 4 * i)) 10) (58 + 4 * i) 2 (61 + 4 * i)) 27 i (58 + 4 * i)) (by omega) (by rw [gN_wR]; exact hN8) (by
      simp only [gR_wR, gR_al, show (8 = 27) = False by simp, show (8 = 58 + 4 * i) = False by simp; omega, false_and, if_false]; exact h84)
    refine ⟨m', a1, a2, ?_, a4, a5, a6, fun r h1 h2 => ?_, fun a k h1 h2 => ?_⟩
    · rw [a3]
      simp only [gU_wR, gU_al]; omega
    · by_cases e : r = i
      · rw [e, a8 27 i (by omega) (.inr (by omega)), a8 (58 + 4 * i) 0 (by omega) (.inl (by omega)), a8 (58 + 4 * i) 1 (by omega) (.inl (by omega)), a8 (58 + 4 * i) 2 (by omega) (.inl (by omega))]
        have e1 : 58 + 4 * i ≠ 27 := by omega
        refine ⟨gR_wR_s, ?_, ?_, ?_⟩
        · rw [gR_wR_f e1, gR_wR_k (by decide), gR_al, gR_wR_k (by decide), gR_al, gR_wR_s]
        · rw [gR_wR_f e1, gR_wR_k (by decide), gR_al, gR_wR_s]
        · rw [gR_wR_f e1, gR_wR_s]
      · exact a7 r (by omega) h2
    · rw [a8 a k (by omega) (by omega)]
      have e1 : (a = 58 + 4 * i) = False := by simp; omega
      have e2 : (a = 27 ∧ k = i) = False := by simp; omega
      simp only [gR_wR, gR_al, e1, e2, false_and, if_false]

