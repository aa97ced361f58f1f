/-! ===== mixed radix ===== -/
def dP (z : Nat → Nat) : Nat → Nat
  | 0 => 1
  | g + 1 => dP z g * z g
def dD (z : Nat → Nat) (g s : Nat) : Nat := s / dP z g % z g
section DIG
variable {z : Nat → Nat}
theorem dP_pos (hz : ∀ g, 0 < z g) : ∀ g, 0 < dP z g := by
  intro g
  induction g with
  | zero => exact Nat.one_pos
  | succ g ih => exact Nat.mul_pos ih (hz g)
theorem dP_dvd {h : Nat} : ∀ g, h < g → dP z h * z h ∣ dP z g := by
  intro g
  induction g with
  | zero => intro h; omega
  | succ g ih =>
    intro hg
    by_cases e : h = g
    · subst e; exact Nat.dvd_refl _
    · exact Nat.dvd_trans (ih (by omega)) (Nat.dvd_mul_right _ _)
theorem dg_pred {q z : Nat} (hz : 0 < z) (h : 0 < q % z) : (q - 1) % z = q % z - 1 ∧ (q - 1) / z = q / z := by
  have h1 := Nat.div_add_mod q z
  have h2 := Nat.mod_lt q hz
  have h3 : q - 1 = z * (q / z) + (q % z - 1) := by omega
  refine ⟨?_, ?_⟩
  · rw [h3, Nat.mul_add_mod, Nat.mod_eq_of_lt (by omega)]
  · have h4 : (z * (q / z) + (q % z - 1)) / z = q / z + (q % z - 1) / z := Nat.mul_add_div hz _ _
    rw [h3, h4, Nat.div_eq_of_lt (show q % z - 1 < z by omega), Nat.add_zero]
theorem dD_le (hz : ∀ g, 0 < z g) {g s : Nat} (h : 0 < dD z g s) : dP z g ≤ s := by
  apply Nat.le_of_not_lt
  intro q
  unfold dD at h
  rw [Nat.div_eq_of_lt q, Nat.zero_mod] at h
  exact absurd h (Nat.lt_irrefl 0)
theorem dD_sub (hz : ∀ g, 0 < z g) {g s : Nat} (h : 0 < dD z g s) (i : Nat) : dD z i (s - dP z g) = if i = g then dD z g s - 1 else dD z i s := by
  have hle := dD_le hz h
  have hp := dP_pos hz g
  have hq : (s - dP z g) / dP z g = s / dP z g - 1 := by
    have := Nat.sub_mul_div s (dP z g) 1
    rw [Nat.mul_one] at this
    exact this
  have hd : 0 < s / dP z g % z g := h
  by_cases e : i = g
  · rw [if_pos e, e]
    unfold dD
    rw [hq]
    exact (dg_pred (hz g) hd).1
  · rw [if_neg e]
    by_cases e2 : i < g
    · obtain ⟨t, ht⟩ := dP_dvd (z := z) g e2
      unfold dD
      rw [ht] at hle ⊢
      rw [Nat.mul_assoc] at hle ⊢
      rw [Nat.sub_mul_div]
      have hle2 : z i * t ≤ s / dP z i := (Nat.le_div_iff_mul_le (dP_pos hz i)).2 (by rw [Nat.mul_comm]; exact hle)
      exact Nat.sub_mul_mod hle2
    · obtain ⟨t, ht⟩ := dP_dvd (z := z) i (show g < i by omega)
      unfold dD
      rw [ht, ← Nat.div_div_eq_div_mul, ← Nat.div_div_eq_div_mul, ← Nat.div_div_eq_div_mul, ← Nat.div_div_eq_div_mul, hq, (dg_pred (hz g) hd).2]
theorem dD_0 (hz : ∀ g, 0 < z g) : ∀ G s, s < dP z G → (∀ g < G, dD z g s = 0) → s = 0 := by
  intro G
  induction G with
  | zero => intro s h _; have h : s < 1 := h; omega
  | succ G ih =>
    intro s h hd
    have h : s < dP z G * z G := h
    have h1 : s / dP z G < z G := (Nat.div_lt_iff_lt_mul (dP_pos hz G)).2 (by rw [Nat.mul_comm]; exact h)
    have h2 := hd G (Nat.lt_succ_self G)
    unfold dD at h2
    rw [Nat.mod_eq_of_lt h1] at h2
    refine ih s ?_ fun g hg => hd g (by omega)
    rcases Nat.div_eq_zero_iff.1 h2 with h3 | h3
    · exact absurd h3 (Nat.ne_of_gt (dP_pos hz G))
    · exact h3
theorem dD_ex (hz : ∀ g, 0 < z g) (v : Nat → Nat) : ∀ G, (∀ g < G, v g < z g) → ∃ s, s < dP z G ∧ ∀ g < G, dD z g s = v g := by
  intro G
  induction G with
  | zero => intro _; exact ⟨0, Nat.one_pos, fun g hg => absurd hg (Nat.not_lt_zero g)⟩
  | succ G ih =>
    intro h
    obtain ⟨s, hs, hd⟩ := ih fun g hg => h g (by omega)
    refine ⟨s + dP z G * v G, ?_, fun g hg => ?_⟩
    · show _ < dP z G * z G
      have h1 : dP z G * (v G + 1) ≤ dP z G * z G := Nat.mul_le_mul_left _ (h G (Nat.lt_succ_self G))
      rw [Nat.mul_add, Nat.mul_one] at h1
      omega
    · by_cases e : g = G
      · subst e
        unfold dD
        rw [Nat.add_mul_div_left _ _ (dP_pos hz g), Nat.div_eq_of_lt hs, Nat.zero_add, Nat.mod_eq_of_lt (h g (Nat.lt_succ_self g))]
      · obtain ⟨t, ht⟩ := dP_dvd (z := z) G (show g < G by omega)
        rw [← hd g (by omega)]
        unfold dD
        rw [ht, Nat.mul_assoc, Nat.mul_assoc, Nat.add_mul_div_left _ _ (dP_pos hz g), Nat.add_mul_mod_self_left]
/-! the greatest product -/
def dMx (f : Nat → Nat) : Nat → Nat
  | 0 => f 0
  | t + 1 => max (dMx f t) (f (t + 1))
theorem dMx_le {f : Nat → Nat} : ∀ t a, a ≤ t → f a ≤ dMx f t := by
  intro t
  induction t with
  | zero => intro a h; have : a = 0 := by omega
            subst this; exact Nat.le_refl _
  | succ t ih =>
    intro a h
    by_cases e : a = t + 1
    · subst e; exact Nat.le_max_right _ _
    · exact Nat.le_trans (ih a (by omega)) (Nat.le_max_left _ _)
def dPm : Nat → Nat → Nat
  | 0, _ => 1
  | k + 1, t => dMx (fun a => dPm k (t - a) * (a + 1)) t
def dSm (z : Nat → Nat) : Nat → Nat
  | 0 => 0
  | g + 1 => dSm z g + (z g - 1)
theorem dP_le (hz : ∀ g, 0 < z g) : ∀ k, dP z k ≤ dPm k (dSm z k) := by
  intro k
  induction k with
  | zero => exact Nat.le_refl 1
  | succ k ih =>
    show dP z k * z k ≤ dMx (fun a => dPm k (dSm z (k + 1) - a) * (a + 1)) (dSm z (k + 1))
    have e : dSm z (k + 1) = dSm z k + (z k - 1) := rfl
    refine Nat.le_trans ?_ (dMx_le (dSm z (k + 1)) (z k - 1) (by omega))
    show _ ≤ dPm k (dSm z (k + 1) - (z k - 1)) * (z k - 1 + 1)
    rw [show dSm z (k + 1) - (z k - 1) = dSm z k by omega, show z k - 1 + 1 = z k by have := hz k; omega]
    exact Nat.mul_le_mul_right _ ih
theorem dPm_5 : ∀ t < 17, dPm 5 t ≤ 1280 := by decide +kernel
end DIG
/-! ===== the next set within a set ===== -/
/-- s lies within m, of k bits -/
def nW : Nat → Nat → Nat → Bool
  | 0, s, m => Nat.beq s 0 && Nat.beq m 0
  | k + 1, s, m => nW k (s / 2) (m / 2) && Nat.ble (s % 2) (m % 2)
/-- the next one -/
def nX : Nat → Nat → Nat → Nat
  | 0, _, _ => 0
  | k + 1, s, m => if s % 2 = m % 2 then 2 * nX k (s / 2) (m / 2) else 2 * (s / 2) + 1
theorem nW_s {k s m : Nat} (h : nW (k + 1) s m = true) : nW k (s / 2) (m / 2) = true ∧ s % 2 ≤ m % 2 := by
  have q := Bool.and_eq_true_iff.1 h
  exact ⟨q.1, Nat.le_of_ble_eq_true q.2⟩
theorem nW_i {k s m : Nat} (h : nW k (s / 2) (m / 2) = true) (h2 : s % 2 ≤ m % 2) : nW (k + 1) s m = true := Bool.and_eq_true_iff.2 ⟨h, Nat.ble_eq_true_of_le h2⟩
theorem nW_le : ∀ k s m, nW k s m = true → s ≤ m ∧ m < 2 ^ k := by
  intro k
  induction k with
  | zero =>
    intro s m h
    have q := Bool.and_eq_true_iff.1 h
    have h1 := Nat.eq_of_beq_eq_true q.1
    have h2 := Nat.eq_of_beq_eq_true q.2
    subst h1; subst h2; exact ⟨Nat.le_refl 0, by decide⟩
  | succ k ih =>
    intro s m h
    obtain ⟨h1, h2⟩ := nW_s h
    obtain ⟨a, b⟩ := ih _ _ h1
    rw [Nat.pow_succ]
    omega
theorem nX_ok : ∀ k s m, nW k s m = true → s ≠ m → nW k (nX k s m) m = true ∧ s < nX k s m ∧ ∀ t, nW k t m = true → s < t → nX k s m ≤ t := by
  intro k
  induction k with
  | zero =>
    intro s m h hne
    have := nW_le 0 s m h
    have q := Bool.and_eq_true_iff.1 h
    have h1 := Nat.eq_of_beq_eq_true q.1
    have h2 := Nat.eq_of_beq_eq_true q.2
    omega
  | succ k ih =>
    intro s m h hne
    obtain ⟨h1, h2⟩ := nW_s h
    show nW (k + 1) (if s % 2 = m % 2 then _ else _) m = true ∧ _ < (if s % 2 = m % 2 then _ else _) ∧ ∀ t, _ → _ → (if s % 2 = m % 2 then _ else _) ≤ t
    by_cases e : s % 2 = m % 2
    · rw [if_pos e]
      obtain ⟨a, b, c⟩ := ih _ _ h1 (by omega)
      refine ⟨nW_i ?_ ?_, by omega, fun t ht hlt => ?_⟩
      · rw [show 2 * nX k (s / 2) (m / 2) / 2 = nX k (s / 2) (m / 2) by omega]; exact a
      · omega
      · obtain ⟨t1, t2⟩ := nW_s ht
        have := c (t / 2) t1 (by omega)
        omega
    · rw [if_neg e]
      refine ⟨nW_i ?_ ?_, by omega, fun t ht hlt => by omega⟩
      · rw [show (2 * (s / 2) + 1) / 2 = s / 2 by omega]; exact h1
      · omega
theorem nb_and {a b : Nat} : a &&& b = 2 * (a / 2 &&& b / 2) + (a % 2 &&& b % 2) := by
  have h1 : (a &&& b) / 2 = a / 2 &&& b / 2 := Nat.and_div_two
  have h2 : (a &&& b) % 2 = a % 2 &&& b % 2 := by
    have := Nat.and_mod_two_pow (a := a) (b := b) (n := 1)
    simpa using this
  have := Nat.div_add_mod (a &&& b) 2
  rw [h1, h2] at this
  exact this.symm
theorem nb_1 : ∀ x < 2, ∀ y < 2, x &&& y = x * y := by decide
theorem nb_and' {a b : Nat} : a &&& b = 2 * (a / 2 &&& b / 2) + (a % 2) * (b % 2) := by
  rw [nb_and (a := a) (b := b), nb_1 _ (Nat.mod_lt _ (by decide)) _ (Nat.mod_lt _ (by decide))]
/-- what stands outside: (2^j - 1 - (m - s)) and m are s -/
theorem nb_c : ∀ k j s m, k ≤ j → nW k s m = true → (2 ^ j - 1 - (m - s)) &&& m = s := by
  intro k
  induction k with
  | zero =>
    intro j s m _ h
    have q := Bool.and_eq_true_iff.1 h
    have h1 := Nat.eq_of_beq_eq_true q.1
    have h2 := Nat.eq_of_beq_eq_true q.2
    subst h1; subst h2; exact Nat.and_zero _
  | succ k ih =>
    intro j s m hj h
    obtain ⟨h1, h2⟩ := nW_s h
    obtain ⟨j', rfl⟩ : ∃ j', j = j' + 1 := ⟨j - 1, by omega⟩
    have hI := ih j' _ _ (by omega) h1
    have hle := nW_le _ _ _ h1
    have hp : 2 ^ k ≤ 2 ^ j' := Nat.pow_le_pow_right (by decide) (by omega)
    rw [nb_and', Nat.pow_succ]
    have e1 : (2 ^ j' * 2 - 1 - (m - s)) / 2 = 2 ^ j' - 1 - (m / 2 - s / 2) := by omega
    rw [e1, hI]
    have hm := Nat.mod_two_eq_zero_or_one m
    have hs := Nat.mod_two_eq_zero_or_one s
    rcases hm with hm | hm
    · rw [hm, Nat.mul_zero]; omega
    · rw [hm, Nat.mul_one]; omega
theorem nb_x : ∀ k j s m, k ≤ j → nW k s m = true → s ≠ m → (2 ^ j + s - m) &&& m = nX k s m := by
  intro k
  induction k with
  | zero =>
    intro j s m _ h hne
    have q := Bool.and_eq_true_iff.1 h
    have h1 := Nat.eq_of_beq_eq_true q.1
    have h2 := Nat.eq_of_beq_eq_true q.2
    omega
  | succ k ih =>
    intro j s m hj h hne
    obtain ⟨h1, h2⟩ := nW_s h
    obtain ⟨j', rfl⟩ : ∃ j', j = j' + 1 := ⟨j - 1, by omega⟩
    have hle := nW_le _ _ _ h1
    have hp : 2 ^ k ≤ 2 ^ j' := Nat.pow_le_pow_right (by decide) (by omega)
    rw [nb_and', Nat.pow_succ]
    show _ = if s % 2 = m % 2 then _ else _
    by_cases e : s % 2 = m % 2
    · rw [if_pos e]
      have hI := ih j' _ _ (by omega) h1 (by omega)
      have e1 : (2 ^ j' * 2 + s - m) / 2 = 2 ^ j' + s / 2 - m / 2 := by omega
      have e2 : (2 ^ j' * 2 + s - m) % 2 = 0 := by omega
      rw [e1, hI, e2, Nat.zero_mul, Nat.add_zero]
    · rw [if_neg e]
      have hs : s % 2 = 0 := by omega
      have hm : m % 2 = 1 := by omega
      have e1 : (2 ^ j' * 2 + s - m) / 2 = 2 ^ j' - 1 - (m / 2 - s / 2) := by omega
      have e2 : (2 ^ j' * 2 + s - m) % 2 = 1 := by omega
      rw [e1, nb_c k j' _ _ (by omega) h1, e2, hm]
