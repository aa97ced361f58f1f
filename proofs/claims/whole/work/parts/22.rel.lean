/-! ===== what a state of the small machine says of the heap ===== -/
/-- base of the new cells; class numbers; array classes; String, its bytes, the script; other given references; script's length and contents -/
abbrev gd_Zt : Type := Nat × va_G × (Nat → ClassId) × (Nat × Nat × Nat) × (Nat → Value) × Nat × (Nat → Int32)
abbrev gz_bs (Z : gd_Zt) : Nat := Z.1
abbrev gz_D (Z : gd_Zt) : va_G := Z.2.1
abbrev gz_cA (Z : gd_Zt) : Nat → ClassId := Z.2.2.1
abbrev gz_a1 (Z : gd_Zt) : Nat := Z.2.2.2.1.1
abbrev gz_a2 (Z : gd_Zt) : Nat := Z.2.2.2.1.2.1
abbrev gz_a3 (Z : gd_Zt) : Nat := Z.2.2.2.1.2.2
abbrev gz_op (Z : gd_Zt) : Nat → Value := Z.2.2.2.2.1
abbrev gz_L (Z : gd_Zt) : Nat := Z.2.2.2.2.2.1
abbrev gz_xs (Z : gd_Zt) : Nat → Int32 := Z.2.2.2.2.2.2
def gd_adr (Z : gd_Zt) (i : Nat) : Value := match i with
  | 0 => .null
  | 1 => .ref (gz_a1 Z)
  | 2 => .ref (gz_a2 Z)
  | 3 => .ref (gz_a3 Z)
  | 4 => gz_op Z 4
  | 5 => gz_op Z 5
  | 6 => gz_op Z 6
  | 7 => gz_op Z 7
  | n + 8 => .ref (gz_bs Z + n)
def gd_cv (Z : gd_Zt) : Value → Value
  | .ref i => gd_adr Z i
  | v => v
def gd_opt : Value → Option Nat
  | .ref a => some a
  | _ => none
def gd_fv (Z : gd_Zt) (m : gd_M) (id k : Nat) : Value :=
  if gd_tc (gd_ty (gd_KD id) k) = 3 then .long (gJ m id k) else if gd_tc (gd_ty (gd_KD id) k) = 4 then gd_adr Z (gR m id k) else .int (gI m id k)
def gd_fs (Z : gd_Zt) (m : gd_M) (id : Nat) : List Value := (List.range (gd_NN (gd_KD id))).map (gd_fv Z m id)
def gd_en (Z : gd_Zt) (m : gd_M) (id : Nat) : va_E :=
  if gd_KD id < 10 then .inr (gd_KD id, gd_fs Z m id)
  else .inl (gz_cA Z (gd_KD id), (gd_LN id, if gd_KD id = 13 then .inr (.inl (gJ m id)) else if gd_KD id = 14 then .inr (.inr (.inr (.inr (fun j => gd_opt (gd_adr Z (gR m id j)))))) else .inl (gI m id)))
def gd_aty (k : Nat) : FieldType := if k = 10 then .int else if k = 11 then .boolean else if k = 12 then .byte else if k = 13 then .long else .object "GymDesk$Routine"
abbrev gz_A (Z : gd_Zt) : Nat → Prop := fun q => gz_bs Z ≤ q
/-- the world -/
def gd_HR (Z : gd_Zt) (m : gd_M) (H : Heap) : Prop :=
  8 ≤ gN m ∧ H.size + 8 = gz_bs Z + gN m ∧ (∀ n, n + 8 < gN m → va_at (gz_D Z) gd_cl (gz_bs Z + n, gd_en Z m (n + 8)) H) ∧
  (∀ id, gN m ≤ id → ∀ j, gI m id j = 0 ∧ gJ m id j = 0 ∧ gR m id j = 0) ∧ gL m = gz_L Z ∧ (∀ j, gI m 3 j = gz_xs Z j)
def gd_text : String := "part link group limit counts short fault panel team final in as needs worth of less each span land "
def gd_nests : List (String × Nat × MethodName) := [("GymDesk", 15, ⟨"GymDesk$Reader", "<init>", "()V"⟩), ("GymDesk", 22, ⟨"GymDesk$Chooser", "<init>", "()V"⟩), ("GymDesk", 29, ⟨"GymDesk$Ranking", "<init>", "()V"⟩), ("GymDesk", 63, ⟨"GymDesk$Routine", "<init>", "()V"⟩), ("GymDeskModel", 18, ⟨"GymDeskModel$Code", "<init>", "()V"⟩)]
/-- what is known of the classes -/
def gd_EK (Z : gd_Zt) (U : State) : Prop :=
  (∀ (c : Nat) (q : vw_C), gd_cl[c]? = some q → u_Kn U q.1 q.2.1 q.2.2 ((gz_D Z).1 c) ((gz_D Z).2 c)) ∧
  (∀ k, 10 ≤ k → k ≤ 14 → ArrOfT U (gz_cA Z k) (gd_aty k) ∧ va_RA U (gz_cA Z k) (gd_aty k)) ∧
  (∀ q ∈ gd_nests, va_Nw (.methodLinkNest q.1 q.2.1 q.2.2 q.1) U) ∧
  va_AO "GymDesk$Routine" U ∧ va_Nw (.castable "GymDeskModel$Stop" "GymDeskModel$Stop") U ∧
  vk_R "GymDesk$Scanner" 15 gd_text (gz_a1 Z) U ∧ vk_R "GymDeskModel" 126 gd_text (gz_a1 Z) U ∧
  (∀ i, gz_op Z i = .null ∨ ∃ t, gz_op Z i = .ref t)
/-- what lies below the base -/
def gd_EH (Z : gd_Zt) (U : State) (H : Heap) : Prop :=
  vk_S 1 [gd_txl] [gd_txs] (fun _ => gz_a1 Z) (fun _ => gz_a2 Z) (gz_A Z) U H ∧
  va_Z "java/lang/String" "COMPACT_STRINGS" "Z" (.int 1) (gz_A Z) U H ∧
  va_Z "jdk/internal/util/Preconditions" "SIOOBE_FORMATTER" "Ljava/util/function/BiFunction;" (gz_op Z 5) (gz_A Z) U H ∧
  va_Z "java/lang/Throwable" "UNASSIGNED_STACK" "[Ljava/lang/StackTraceElement;" (gz_op Z 6) (gz_A Z) U H ∧
  va_Z "java/lang/Throwable" "SUPPRESSED_SENTINEL" "Ljava/util/List;" (gz_op Z 7) (gz_A Z) U H ∧
  va_X (gz_a3 Z) (gz_L Z) (gz_xs Z) U H ∧ gz_a3 Z < gz_bs Z ∧ gz_L Z < 2 ^ 31
def gd_EV (Z : gd_Zt) (U : State) (H : Heap) : Prop := gd_EK Z U ∧ gd_EH Z U H ∧ gz_bs Z ≤ H.size
theorem gd_EK.moved {Z : gd_Zt} {s U : State} (hW : s.WarmedH U.vm) (h : gd_EK Z s) : gd_EK Z U :=
  ⟨fun c q hq => u_Kn_moved hW.alike (h.1 c q hq), fun k h1 h2 => ⟨arrOfT_moved hW.alike (h.2.1 k h1 h2).1, (h.2.1 k h1 h2).2.moved hW.alike⟩, fun q hq => va_Nw.warmM hW (h.2.2.1 q hq), va_AO.moved hW.alike h.2.2.2.1, va_Nw.warmC hW h.2.2.2.2.1, vk_R.warm hW h.2.2.2.2.2.1, vk_R.warm hW h.2.2.2.2.2.2.1, h.2.2.2.2.2.2.2⟩
theorem gd_EH.moved {Z : gd_Zt} {s U : State} {H : Heap} (hvm : s.vm.Alike U.vm) (h : gd_EH Z s H) : gd_EH Z U H :=
  ⟨vk_S.moved hvm h.1, va_Z.moved hvm h.2.1, va_Z.moved hvm h.2.2.1, va_Z.moved hvm h.2.2.2.1, va_Z.moved hvm h.2.2.2.2.1, va_X.moved hvm h.2.2.2.2.2.1, h.2.2.2.2.2.2⟩
theorem gd_EH.kept {Z : gd_Zt} {U : State} {H H1 : Heap} (h : gd_EH Z U H) (hb : gz_bs Z ≤ H.size) (hq : ∀ a : Nat, a < H.size → ¬ gz_A Z a → H1[a]? = H[a]?) : gd_EH Z U H1 :=
  ⟨vk_S.kept h.1 hq, va_Z.kept h.2.1 hq, va_Z.kept h.2.2.1 hq, va_Z.kept h.2.2.2.1 hq, va_Z.kept h.2.2.2.2.1 hq, va_X.kept h.2.2.2.2.2.1 (hq _ (Nat.lt_of_lt_of_le h.2.2.2.2.2.2.1 hb) (Nat.not_le.mpr h.2.2.2.2.2.2.1)), h.2.2.2.2.2.2⟩
theorem gd_adr_nr {Z : gd_Zt} {U : State} (hE : gd_EK Z U) (i : Nat) : gd_adr Z i = .null ∨ ∃ t, gd_adr Z i = .ref t := by
  have hop := hE.2.2.2.2.2.2.2
  match i with
  | 0 => exact Or.inl rfl
  | 1 => exact Or.inr ⟨_, rfl⟩
  | 2 => exact Or.inr ⟨_, rfl⟩
  | 3 => exact Or.inr ⟨_, rfl⟩
  | 4 => exact hop 4
  | 5 => exact hop 5
  | 6 => exact hop 6
  | 7 => exact hop 7
  | n + 8 => exact Or.inr ⟨_, rfl⟩
theorem gd_rf_opt {v : Value} (h : v = .null ∨ ∃ t, v = .ref t) : va_rf (gd_opt v) = v := by
  rcases h with rfl | ⟨t, rfl⟩ <;> rfl
theorem gd_adr_8 {Z : gd_Zt} {i : Nat} (h : 8 ≤ i) : gd_adr Z i = .ref (gz_bs Z + (i - 8)) := by
  obtain ⟨n, rfl⟩ : ∃ n, i = n + 8 := ⟨i - 8, by omega⟩
  rfl
theorem gd_KD_8 {i k : Nat} (h : gd_KD i = k) (hk : k < 99) : 8 ≤ i := by
  rcases Nat.lt_or_ge i 8 with h8 | h8
  · exfalso
    have : ∀ i, i < 8 → gd_KD i = 99 := by decide
    rw [this i h8] at h
    omega
  · exact h8
theorem gd_ok_of {n a k : Nat} (h : gd_ok n a k = true) : gd_KD a = k ∧ a < n := by
  unfold gd_ok at h
  rw [Bool.and_eq_true] at h
  exact ⟨Nat.eq_of_beq_eq_true h.1, of_decide_eq_true h.2⟩
theorem gd_in_of {i : Int32} {n : Nat} (h : gd_in i n = true) : vp_in i n := by
  unfold gd_in at h
  intro hx
  rcases hx with hx | hx <;> simp [hx] at h
theorem gd_okA_of {n a k : Nat} {i : Int32} (h : gd_okA n a k i = true) : gd_KD a = k ∧ a < n ∧ vp_in i (gd_LN a) := by
  unfold gd_okA at h
  rw [Bool.and_eq_true, Bool.and_eq_true] at h
  exact ⟨Nat.eq_of_beq_eq_true h.1.1, of_decide_eq_true h.1.2, gd_in_of h.2⟩
/-- a cell of the world, by its id -/
theorem gd_HR.at {Z : gd_Zt} {m : gd_M} {H : Heap} (h : gd_HR Z m H) {x : Nat} (h8 : 8 ≤ x) (hx : x < gN m) : va_at (gz_D Z) gd_cl (gz_bs Z + (x - 8), gd_en Z m x) H := by
  have h2 := h.2.2.1 (x - 8) (by omega)
  rwa [show x - 8 + 8 = x by omega] at h2
theorem gd_one {D : va_G} {cl : List vw_C} {q : Nat × va_E} {H : Heap} (h : va_at D cl q H) : va_P D cl [q] H := by
  intro k x hx
  have hz : k < 1 := (List.getElem?_eq_some_iff.mp hx).1
  rw [show k = 0 by omega] at hx
  cases hx
  exact h
def gd_tys (Z : gd_Zt) : List (ClassId × FieldType) := [(gz_cA Z 10, .int), (gz_cA Z 11, .boolean), (gz_cA Z 12, .byte), (gz_cA Z 13, .long), (gz_cA Z 14, .object "GymDesk$Routine")]
theorem gd_EK.K {Z : gd_Zt} {U : State} (h : gd_EK Z U) : va_K (gz_D Z) gd_cl (gd_tys Z) U := by
  refine ⟨h.1, fun k q hk => ?_⟩
  match k, hk with
  | 0, hk => cases hk; exact h.2.1 10 (by decide) (by decide)
  | 1, hk => cases hk; exact h.2.1 11 (by decide) (by decide)
  | 2, hk => cases hk; exact h.2.1 12 (by decide) (by decide)
  | 3, hk => cases hk; exact h.2.1 13 (by decide) (by decide)
  | 4, hk => cases hk; exact h.2.1 14 (by decide) (by decide)
  | k + 5, hk => simp [gd_tys] at hk
/-! the words that a frame has at hand -/
theorem gd_G_mem {w : Nat} {c : Jvm.Cond} (h : gd_wd w c = true) (hg : goodWord c = true) : c ∈ gd_G := by
  unfold gd_wd at h
  exact List.mem_filter.mpr ⟨List.mem_of_getElem? (of_decide_eq_true h), hg⟩
theorem gd_G_mem2 {c : Jvm.Cond} (h : c ∈ lw_tbl) (hg : goodWord c = true) : c ∈ gd_G := List.mem_filter.mpr ⟨h, hg⟩
theorem gd_G_good : ∀ ws : List Jvm.Cond, (∀ w ∈ ws, w ∈ gd_G) → ∀ big : List Jvm.Cond, (∀ w ∈ gd_G, w ∈ big) → GoodIn big ws := fun ws h big hb w hw => ⟨hb w (h w hw), good_of_word (List.mem_filter.mp (h w hw)).2⟩
/-! locals -/
def gd_vok : Value → Bool
  | .null => true
  | .int _ => true
  | .ref _ => true
  | .long _ => true
  | _ => false
def gd_LR (Z : gd_Zt) (M : Nat) (loc : List Value) (ls : Array Slot) : Prop :=
  ls.size = gr_ml (gd_rc M) ∧ lv_wf ls ∧ (∀ i, gd_at loc i ≠ .null → ls[i]? = some (.val (gd_cv Z (gd_at loc i)))) ∧ ∀ i, gd_vok (gd_at loc i) = true ∧ (gd_isL (gd_at loc i) = true → (gr_lng (gd_rc M)).elem i = true)
theorem gd_at_set : ∀ (loc : List Value) (n : Nat) (x : Value) (j : Nat), gd_at (gd_set loc n x) j = if j = n then (if n < loc.length then x else .null) else gd_at loc j
  | [], n, x, j => by simp [gd_set, gd_at]
  | v :: l, 0, x, 0 => by simp [gd_set, gd_at]
  | v :: l, 0, x, j + 1 => by simp [gd_set, gd_at]
  | v :: l, n + 1, x, 0 => by simp [gd_set, gd_at]
  | v :: l, n + 1, x, j + 1 => by
    have h := gd_at_set l n x j
    simp only [gd_set, gd_at, h, Nat.succ_eq_add_one, Nat.add_right_cancel_iff, List.length_cons, Nat.add_lt_add_iff_right]
def gd_lst (Z : gd_Zt) (nL : Nat) (loc : List Value) : List (Nat × Value) := (List.range nL).filterMap fun i => if gd_at loc i = .null then none else some (i, gd_cv Z (gd_at loc i))
theorem gd_lst_has {Z : gd_Zt} {M : Nat} {loc : List Value} {ls : Array Slot} (h : gd_LR Z M loc ls) : lv_has ls (gr_ml (gd_rc M)) (gd_lst Z (gr_ml (gd_rc M)) loc) := by
  refine ⟨h.1, h.2.1, fun q hq => ?_⟩
  obtain ⟨i, -, hi⟩ := List.mem_filterMap.mp hq
  by_cases hn : gd_at loc i = .null
  · rw [if_pos hn] at hi; cases hi
  · rw [if_neg hn] at hi
    cases hi
    exact h.2.2.1 i hn
theorem gd_lst_mem {Z : gd_Zt} {nL : Nat} {loc : List Value} {j : Nat} (hj : j < nL) (hn : gd_at loc j ≠ .null) : (j, gd_cv Z (gd_at loc j)) ∈ gd_lst Z nL loc :=
  List.mem_filterMap.mpr ⟨j, List.mem_range.mpr hj, by rw [if_neg hn]⟩
theorem gd_cv_cat {Z : gd_Zt} {U : State} (hE : gd_EK Z U) {v : Value} (h : gd_vok v = true) : (gd_cv Z v).category = 2 → gd_isL v = true := by
  cases v with
  | ref i => intro h2; rcases gd_adr_nr hE i with h3 | ⟨t, h3⟩ <;> (rw [show gd_cv Z (.ref i) = gd_adr Z i from rfl, h3] at h2; cases h2)
  | long x => intro _; rfl
  | int x => intro h2; cases h2
  | null => intro h2; cases h2
  | float x => cases h
  | double x => cases h
  | retAddr x => cases h
theorem gd_nth_lt {ls : Array Slot} {i : Nat} {x : Slot} (h : ls[i]? = some x) : i < ls.size := (Array.getElem?_eq_some_iff.mp h).1
/-- behind a store of one slot -/
theorem gd_LR_st {Z : gd_Zt} {U : State} (hE : gd_EK Z U) {M : Nat} {loc : List Value} {ls ls' : Array Slot} (h : gd_LR Z M loc ls) {n : Nat} {v : Value} (hv : gd_vok v = true) (hvl : gd_isL v = false) (hs : gd_stOk (gr_lng (gd_rc M)) n (gr_ml (gd_rc M)) = true)
    (h' : lv_has ls' (gr_ml (gd_rc M)) ((n, gd_cv Z v) :: (gd_lst Z (gr_ml (gd_rc M)) loc).filter (fun q => !(q.1 == n) && !(q.1 + 1 == n && q.2.category == 2)))) : gd_LR Z M (gd_set loc n v) ls' := by
  unfold gd_stOk at hs
  simp only [Bool.and_eq_true] at hs
  refine ⟨h'.1, h'.2.1, fun j hj => ?_, fun j => ?_⟩
  · rw [gd_at_set] at hj ⊢
    by_cases hjn : j = n
    · subst hjn
      rw [if_pos rfl] at hj ⊢
      by_cases hl : j < loc.length
      · rw [if_pos hl]
        exact h'.2.2 _ List.mem_cons_self
      · rw [if_neg hl] at hj
        exact absurd rfl hj
    · rw [if_neg hjn] at hj ⊢
      have hlt : j < gr_ml (gd_rc M) := by rw [← h.1]; exact gd_nth_lt (h.2.2.1 j hj)
      refine h'.2.2 (j, gd_cv Z (gd_at loc j)) (List.mem_cons_of_mem _ (List.mem_filter.mpr ⟨gd_lst_mem hlt hj, ?_⟩))
      simp only [Bool.and_eq_true, Bool.not_eq_true', beq_eq_false_iff_ne, ne_eq, Bool.and_eq_false_iff]
      refine ⟨hjn, ?_⟩
      by_cases h1 : j + 1 = n
      · right
        intro h2
        have h3 := (h.2.2.2 j).2 (gd_cv_cat hE (h.2.2.2 j).1 h2)
        have h4 := hs.1.2
        rw [← h1] at h4
        simp at h4
        rw [List.elem_eq_mem] at h3
        simp at h3
        exact h4 h3
      · left; exact h1
  · rw [gd_at_set]
    by_cases hjn : j = n
    · rw [if_pos hjn]
      by_cases hl : n < loc.length
      · rw [if_pos hl]
        exact ⟨hv, fun q => by rw [hvl] at q; cases q⟩
      · rw [if_neg hl]
        exact ⟨rfl, fun q => by cases q⟩
    · rw [if_neg hjn]
      exact h.2.2.2 j
