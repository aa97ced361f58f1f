/-! ===== facts of a frame; classes by number; the heap behind a write ===== -/
theorem gd_go_inj {c d : gd_F} (h : gd_go c = gd_go d) : c = d := by
  unfold gd_go at h
  injection h with h
  injection h with h
  injection h
theorem gd_and2 {P : Prop} {dP : Decidable P} {len n : Nat} (h : (decide P && Nat.beq len n) = true) : P ∧ len = n := by
  rw [Bool.and_eq_true] at h
  exact ⟨of_decide_eq_true h.1, Nat.eq_of_beq_eq_true h.2⟩
theorem gd_and3 {P : Prop} {dP : Decidable P} {x : Bool} (h : (decide P && x) = true) : P ∧ x = true := by
  rw [Bool.and_eq_true] at h
  exact ⟨of_decide_eq_true h.1, h.2⟩
theorem gd_andb {x y : Bool} (h : (x && y) = true) : x = true ∧ y = true := by rwa [Bool.and_eq_true] at h
theorem gd_tgt_ok {pc : Nat} {o : Int} (h : gd_jmp pc o = true) : (pc : Int) + o = ((gd_tgt pc o : Nat) : Int) := by
  have h2 : 0 ≤ (pc : Int) + o := of_decide_eq_true h
  unfold gd_tgt
  omega
/-- classes by number -/
theorem gd_clat : ∀ a, a < 10 → gd_cl[a]? = some (gd_cn a, gd_T a, gd_NN a) := by
  intro a h
  match a, h with
  | 0, _ => rfl
  | 1, _ => rfl
  | 2, _ => rfl
  | 3, _ => rfl
  | 4, _ => rfl
  | 5, _ => rfl
  | 6, _ => rfl
  | 7, _ => rfl
  | 8, _ => rfl
  | 9, _ => rfl
theorem gd_tyok : ∀ a, a < 10 → ∀ k, k < gd_NN a → parseFieldDescriptor (gd_T a k).2.2.1 = some (gd_ty a k) := by
  intro a h
  match a, h with
  | 0, _ => exact tyX0_ok
  | 1, _ => exact tyX1_ok
  | 2, _ => exact tyX2_ok
  | 3, _ => exact tyX3_ok
  | 4, _ => exact tyX4_ok
  | 5, _ => exact tyX5_ok
  | 6, _ => exact tyX6_ok
  | 7, _ => exact tyX7_ok
  | 8, _ => exact tyX8_ok
  | 9, _ => exact tyX9_ok
theorem gd_nmok : ∀ a, a < 10 → ∀ i, i < gd_NN a → ∀ j, j < gd_NN a → i ≠ j → (gd_T a i).2.1 ≠ (gd_T a j).2.1 := by
  intro a h
  match a, h with
  | 0, _ => exact nmX0
  | 1, _ => exact nmX1
  | 2, _ => exact nmX2
  | 3, _ => exact nmX3
  | 4, _ => exact nmX4
  | 5, _ => exact nmX5
  | 6, _ => exact nmX6
  | 7, _ => exact nmX7
  | 8, _ => exact nmX8
  | 9, _ => exact nmX9
theorem gd_inT : ∀ a, a < 10 → ∀ w ∈ u_ws (gd_cn a) (gd_T a) (gd_NN a), w ∈ gd_G := by
  intro a h
  match a, h with
  | 0, _ => exact gd_inT0
  | 1, _ => exact gd_inT1
  | 2, _ => exact gd_inT2
  | 3, _ => exact gd_inT3
  | 4, _ => exact gd_inT4
  | 5, _ => exact gd_inT5
  | 6, _ => exact gd_inT6
  | 7, _ => exact gd_inT7
  | 8, _ => exact gd_inT8
  | 9, _ => exact gd_inT9
theorem gd_good_fl (a : String) (i : Nat) (b n d : String) : goodWord (.fieldLink a i b n d) = true := rfl
/-- what is known of a frame of method M -/
def gd_FF (Z : gd_Zt) (M : Nat) (p : Program) (R : Room) (s : State) (mI : MethodId) (args : Array Value) (meth : Method) (c : Code) : Prop :=
  p.tables.exec = Jvm.exec ∧ c.code = gr_b (gd_rc M) ∧ c.maxLocals = gr_ml (gd_rc M) ∧ meth.sig.returnType = gr_ret (gd_rc M) ∧ s.vm.findClass (gd_cn (gr_cls (gd_rc M))) = some mI.cls ∧ (∀ w ∈ gd_G, w.before args s = true) ∧ meth.locks = false ∧ ((gr_y (gd_rc M)).name = "<init>" → meth.name = "<init>") ∧ gd_EV Z s s.heap ∧
  gr_fr (gd_rc M) ≤ R.frames ∧ gr_lo (gd_rc M) ≤ R.locals ∧ (M = gd_mCode → c.exceptionTable.toList = tableOf [(67, 86, 89, 7)])
/-- the world behind a write into cell x -/
theorem gd_HR_upd {Z : gd_Zt} {m m' : gd_M} {H H1 : Heap} {x : Nat} (h : gd_HR Z m H) (h8 : 8 ≤ x) (hx : x < gN m) (hn : gN m' = gN m) (hl : gL m' = gL m)
    (hsame : ∀ id, id ≠ x → gI m' id = gI m id ∧ gJ m' id = gJ m id ∧ gR m' id = gR m id) (hz : H1.size = H.size) (ho : ∀ q, q ≠ gz_bs Z + (x - 8) → H1[q]? = H[q]?)
    (hat : va_at (gz_D Z) gd_cl (gz_bs Z + (x - 8), gd_en Z m' x) H1) : gd_HR Z m' H1 := by
  refine ⟨by rw [hn]; exact h.1, by rw [hz, hn]; exact h.2.1, fun n h1 => ?_, fun id hid j => ?_, by rw [hl]; exact h.2.2.2.2.1, fun j => ?_⟩
  · rw [hn] at h1
    by_cases hnx : n + 8 = x
    · subst hnx
      exact hat
    · have he : gd_en Z m' (n + 8) = gd_en Z m (n + 8) := by
        unfold gd_en gd_fs gd_fv
        rw [(hsame _ hnx).1, (hsame _ hnx).2.1, (hsame _ hnx).2.2]
      rw [he]
      exact (h.2.2.1 n h1).kept (ho _ (by omega))
  · rw [hn] at hid
    have hne : id ≠ x := by omega
    rw [(hsame _ hne).1, (hsame _ hne).2.1, (hsame _ hne).2.2]
    exact h.2.2.2.1 id hid j
  · rw [(hsame 3 (by omega)).1]
    exact h.2.2.2.2.2 j
theorem gd_upr {α : Type} (f : Nat → Nat → α) (a k : Nat) (x : α) {b : Nat} (h : b ≠ a) : gd_up f a k x b = f b := by
  funext j
  unfold gd_up
  rw [if_neg (fun q => h q.1)]
theorem gd_ups {α : Type} (f : Nat → Nat → α) (a k : Nat) (x : α) (j : Nat) : gd_up f a k x a j = if j = k then x else f a j := by
  unfold gd_up
  by_cases hj : j = k
  · rw [if_pos ⟨rfl, hj⟩, if_pos hj]
  · rw [if_neg (fun q => hj q.2), if_neg hj]
theorem gd_sameI (m : gd_M) (x k : Nat) (v : Int32) : ∀ id, id ≠ x → gI (wI m x k v) id = gI m id ∧ gJ (wI m x k v) id = gJ m id ∧ gR (wI m x k v) id = gR m id :=
  fun _ h => ⟨gd_upr _ _ _ _ h, rfl, rfl⟩
theorem gd_sameJ (m : gd_M) (x k : Nat) (v : Int64) : ∀ id, id ≠ x → gI (wJ m x k v) id = gI m id ∧ gJ (wJ m x k v) id = gJ m id ∧ gR (wJ m x k v) id = gR m id :=
  fun _ h => ⟨rfl, gd_upr _ _ _ _ h, rfl⟩
theorem gd_sameR (m : gd_M) (x k : Nat) (v : Nat) : ∀ id, id ≠ x → gI (wR m x k v) id = gI m id ∧ gJ (wR m x k v) id = gJ m id ∧ gR (wR m x k v) id = gR m id :=
  fun _ h => ⟨rfl, rfl, gd_upr _ _ _ _ h⟩
theorem gd_fs_set {Z : gd_Zt} {m m' : gd_M} {x k : Nat} {v : Value} (hk : k < gd_NN (gd_KD x)) (h : gd_fv Z m' x k = v) (ho : ∀ j, j ≠ k → gd_fv Z m' x j = gd_fv Z m x j) : (gd_fs Z m x).set k v = gd_fs Z m' x := by
  unfold gd_fs
  apply List.ext_getElem?
  intro j
  by_cases hj : j = k
  · subst hj
    rw [List.getElem?_set_self (by rw [List.length_map, List.length_range]; exact hk), List.getElem?_map, List.getElem?_range hk]
    rw [Option.map_some, h]
  · rw [List.getElem?_set_ne (Ne.symm hj), List.getElem?_map, List.getElem?_map]
    by_cases hl : j < gd_NN (gd_KD x)
    · rw [List.getElem?_range hl, Option.map_some, Option.map_some, ho j hj]
    · rw [List.getElem?_eq_none (by rw [List.length_range]; omega)]
      rfl
theorem gd_fs_get {Z : gd_Zt} {m : gd_M} {x k : Nat} (hk : k < gd_NN (gd_KD x)) : (gd_fs Z m x)[k]? = some (gd_fv Z m x k) := by
  unfold gd_fs
  rw [List.getElem?_map, List.getElem?_range hk, Option.map_some]
theorem gd_fs_len {Z : gd_Zt} {m : gd_M} {x : Nat} : (gd_fs Z m x).length = gd_NN (gd_KD x) := by
  unfold gd_fs
  rw [List.length_map, List.length_range]
section GDB
variable {p : Program} {l : Launch} {e : Env} {R : Room} {s : State} {m : MethodId} {args : Array Value} {below : List Frame} {meth : Method} {c : Code} {H : Heap} {locs : List Loc} {cells slots : Nat} {Q : State → Prop}
variable {cc : ByteArray} {pc : Nat} {ls : Array Slot} {rest : List Value}
theorem gd_wz {n k : Nat} {g : JFrame} (h : W p l e R s m args below meth c H locs (cells + (n - n)) (slots + (k - k)) Q g) : W p l e R s m args below meth c H locs cells slots Q g := by
  rw [Nat.sub_self, Nat.sub_self] at h
  exact h
/-- putfield, the heap told whole -/
theorem gd_put (hexec : p.tables.exec = Jvm.exec) (hb : c.code = cc) {own : String} {index : Nat} {Z : gd_Zt} (hts : ∀ w ∈ gd_G, w.before args s = true) (hown : s.vm.findClass own = some m.cls) (hE : gd_EK Z s) {mm : gd_M} (hH : gd_HR Z mm H) (hS : va_S (gz_A Z) s.heap H locs) {x a k : Nat} (hok : gd_KD x = a ∧ x < gN mm) (ha : a < 10) (hk : k < gd_NN a)
    (hlink : (Cond.fieldLink own index (gd_T a k).1 (gd_T a k).2.1 (gd_T a k).2.2.1).before args s = true) (hfin : (gd_T a k).2.2.2 = true → meth.name = "<init>" ∧ (gd_T a k).1 = own) {v : Value} (hn : narrow (gd_ty a k) v = v) (hfit : fits (gd_ty a k) v = true) (hdg : decode cc pc = .ok (.putfield index, 3))
    (kk : ∀ (H1 : Heap) (locs1 : List Loc), H1.size = H.size → (∀ q, q ≠ gz_bs Z + (x - 8) → H1[q]? = H[q]?) → va_at (gz_D Z) gd_cl (gz_bs Z + (x - 8), .inr (a, (gd_fs Z mm x).set k v)) H1 → va_S (gz_A Z) s.heap H1 locs1 → W p l e R s m args below meth c H1 locs1 cells slots Q (F0 m (pc + 3) ls rest)) :
    W p l e R s m args below meth c H locs cells slots Q (F0 m pc ls (v :: .ref (gz_bs Z + (x - 8)) :: rest)) := by
  have hin := gd_inT a ha
  have hty := gd_tyok a ha
  have hnm := gd_nmok a ha
  have hc := gd_clat a ha
  have hK := hE.K
  have h8 : 8 ≤ x := gd_KD_8 hok.1 (by omega)
  have hcell := hH.at h8 hok.2
  have hen : gd_en Z mm x = .inr (a, gd_fs Z mm x) := by
    unfold gd_en
    rw [hok.1, if_pos ha]
  rw [hen] at hcell
  have hap := va_apart (own := own) hts hin (gd_ty a) hty hnm hK hc
  obtain ⟨r, h1, cell, q1, q2, q3, q4⟩ := hcell
  have hr : r = (gd_cn a, gd_T a, gd_NN a) := Option.some.inj (h1.symm.trans hc)
  subst hr
  obtain ⟨hSl, hfc, kC, hkC, hkind⟩ := hK.1 a _ hc
  obtain ⟨cf, kf, fi, f, hi, hsl⟩ := hSl k hk
  have hlay := hts _ (hin _ (u_in_lay hk))
  unfold u_lay at hlay
  have hst := (u_facts hfc hkC (u_lays hts hin hk) hi).1
  have hl : k < (gd_fs Z mm x).length := by rw [gd_fs_len, hok.1]; exact hk
  have hA : gz_A Z (gz_bs Z + (x - 8)) := Nat.le_add_right _ _
  by_cases hf : (gd_T a k).2.2.2 = true
  · rw [if_pos hf] at hlay
    have hcf : m.cls = cf := by
      obtain ⟨_, _, c', _, _, _, -, -, hf', -, -, -, hown2, -⟩ := Cond.laysFinal_spec hlay
      have e1 : c' = cf := by have := hi.symm.trans hf'; simp at this; exact this.1.symm
      rw [(hfin hf).2] at hown2
      rw [← e1]; exact Option.some.inj (hown.symm.trans hown2)
    have h6 := u_fits hfc hkC hkind (Or.inr hlay) hi (hty k hk) hn hfit
    refine W.putFinK hexec hb hown hlink hi hst hcf (hfin hf).1 (by rw [q2]; exact h6) q1 q3 (by rw [hsl]; exact k2_hasslot (q4 k hk)) rfl rfl hdg fun H' e1 e2 e3 => ?_
    rw [hsl] at e1 ⊢
    exact kk H' _ e2 e3 ⟨_, hc, t_OB.to (V := updV (vp_V (gd_fs Z mm x)) k v) ⟨_, e1, q2, q3, t_set q4 hap hk v⟩ (fun j _ => vp_updV_set hl v j)⟩ (hS.put e2 e3 hA)
  · rw [if_neg hf] at hlay
    have h6 := u_store hfc hkC hkind hlay hi (hty k hk) hn hfit
    refine W.putK hexec hb (f := f) ⟨hown, hlink, ⟨_, _, _, hi⟩, hst⟩ (by rw [q2]; exact h6) q1 q3 (by rw [hsl]; exact k2_hasslot (q4 k hk)) rfl rfl hdg fun H' e1 e2 e3 => ?_
    rw [hsl] at e1 ⊢
    exact kk H' _ e2 e3 ⟨_, hc, t_OB.to (V := updV (vp_V (gd_fs Z mm x)) k v) ⟨_, e1, q2, q3, t_set q4 hap hk v⟩ (fun j _ => vp_updV_set hl v j)⟩ (hS.put e2 e3 hA)
end GDB
