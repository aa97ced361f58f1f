/-! ===== each instruction of the small machine is one of the machine ===== -/
section GDS
variable {p : Program} {l : Launch} {e : Env} {R : Room} {s : State} {mI : MethodId} {args : Array Value} {below : List Frame} {meth : Method} {c : Code} {H : Heap} {locs : List Loc} {cells slots : Nat} {Q : State → Prop}
variable {Z : gd_Zt} {M : Nat} {loc st : List Value} {m : gd_M} {ls : Array Slot} {pc len w a b cc : Nat} {z : Int} {d : gd_F}
abbrev gd_KK (p : Program) (l : Launch) (e : Env) (R : Room) (s : State) (mI : MethodId) (args : Array Value) (below : List Frame) (meth : Method) (c : Code) (cells slots : Nat) (Q : State → Prop) (Z : gd_Zt) (M : Nat) (m : gd_M) (d : gd_F) : Prop := ∀ (H1 : Heap) (ls1 : Array Slot) (locs1 : List Loc), gd_HR Z d.2.2.2.2 H1 → gd_LR Z M d.2.2.1 ls1 → va_S (gz_A Z) s.heap H1 locs1 → W p l e R s mI args below meth c H1 locs1 (cells + (gN d.2.2.2.2 - gN m)) (slots + (gU d.2.2.2.2 - gU m)) Q (F0 mI d.2.1 ls1 (d.2.2.2.1.map (gd_cv Z)))
theorem gd_s_iconst {n : Int} (F : gd_FF Z M p R s mI args meth c) (hH : gd_HR Z m H) (hL : gd_LR Z M loc ls) (hS : va_S (gz_A Z) s.heap H locs) (ho : gd_okE (gd_rc M) (pc, .iconst n, len, w, a, b, cc, z) = true) (hs : gd_step M (pc, .iconst n, len, w, a, b, cc, z) loc st m = gd_go d) (kk : gd_KK p l e R s mI args below meth c cells slots Q Z M m d) : d.1 = M ∧ W p l e R s mI args below meth c H locs cells slots Q (F0 mI pc ls (st.map (gd_cv Z))) := by
  obtain ⟨hx, hb, hml, hr, hown, hts, hlk, hnm, hE, hfr, hlo, htb1⟩ := F
  unfold gd_step at hs
  dsimp only at hs
  have ho : (decide (decode (gr_b (gd_rc M)) pc = .ok (.iconst n, len)) && _) = true := ho
  have ho : (decide (decode (gr_b (gd_rc M)) pc = .ok (.iconst n, len)) && Nat.beq len 1) = true := ho
  obtain ⟨hd, rfl⟩ := gd_and2 ho
  obtain rfl := gd_go_inj hs
  exact ⟨rfl, lv_iconst hx hb hd rfl (gd_wz (kk _ _ _ hH hL hS))⟩
theorem gd_s_bipush {n : Int} (F : gd_FF Z M p R s mI args meth c) (hH : gd_HR Z m H) (hL : gd_LR Z M loc ls) (hS : va_S (gz_A Z) s.heap H locs) (ho : gd_okE (gd_rc M) (pc, .bipush n, len, w, a, b, cc, z) = true) (hs : gd_step M (pc, .bipush n, len, w, a, b, cc, z) loc st m = gd_go d) (kk : gd_KK p l e R s mI args below meth c cells slots Q Z M m d) : d.1 = M ∧ W p l e R s mI args below meth c H locs cells slots Q (F0 mI pc ls (st.map (gd_cv Z))) := by
  obtain ⟨hx, hb, hml, hr, hown, hts, hlk, hnm, hE, hfr, hlo, htb1⟩ := F
  unfold gd_step at hs
  dsimp only at hs
  have ho : (decide (decode (gr_b (gd_rc M)) pc = .ok (.bipush n, len)) && _) = true := ho
  have ho : (decide (decode (gr_b (gd_rc M)) pc = .ok (.bipush n, len)) && Nat.beq len 2) = true := ho
  obtain ⟨hd, rfl⟩ := gd_and2 ho
  obtain rfl := gd_go_inj hs
  exact ⟨rfl, lv_bipush hx hb hd rfl (gd_wz (kk _ _ _ hH hL hS))⟩
theorem gd_s_sipush {n : Int} (F : gd_FF Z M p R s mI args meth c) (hH : gd_HR Z m H) (hL : gd_LR Z M loc ls) (hS : va_S (gz_A Z) s.heap H locs) (ho : gd_okE (gd_rc M) (pc, .sipush n, len, w, a, b, cc, z) = true) (hs : gd_step M (pc, .sipush n, len, w, a, b, cc, z) loc st m = gd_go d) (kk : gd_KK p l e R s mI args below meth c cells slots Q Z M m d) : d.1 = M ∧ W p l e R s mI args below meth c H locs cells slots Q (F0 mI pc ls (st.map (gd_cv Z))) := by
  obtain ⟨hx, hb, hml, hr, hown, hts, hlk, hnm, hE, hfr, hlo, htb1⟩ := F
  unfold gd_step at hs
  dsimp only at hs
  have ho : (decide (decode (gr_b (gd_rc M)) pc = .ok (.sipush n, len)) && _) = true := ho
  have ho : (decide (decode (gr_b (gd_rc M)) pc = .ok (.sipush n, len)) && Nat.beq len 3) = true := ho
  obtain ⟨hd, rfl⟩ := gd_and2 ho
  obtain rfl := gd_go_inj hs
  exact ⟨rfl, lv_sipush hx hb hd rfl (gd_wz (kk _ _ _ hH hL hS))⟩
theorem gd_s_lconst {n : Fin 2} (F : gd_FF Z M p R s mI args meth c) (hH : gd_HR Z m H) (hL : gd_LR Z M loc ls) (hS : va_S (gz_A Z) s.heap H locs) (ho : gd_okE (gd_rc M) (pc, .lconst n, len, w, a, b, cc, z) = true) (hs : gd_step M (pc, .lconst n, len, w, a, b, cc, z) loc st m = gd_go d) (kk : gd_KK p l e R s mI args below meth c cells slots Q Z M m d) : d.1 = M ∧ W p l e R s mI args below meth c H locs cells slots Q (F0 mI pc ls (st.map (gd_cv Z))) := by
  obtain ⟨hx, hb, hml, hr, hown, hts, hlk, hnm, hE, hfr, hlo, htb1⟩ := F
  unfold gd_step at hs
  dsimp only at hs
  have ho : (decide (decode (gr_b (gd_rc M)) pc = .ok (.lconst n, len)) && _) = true := ho
  have ho : (decide (decode (gr_b (gd_rc M)) pc = .ok (.lconst n, len)) && Nat.beq len 1) = true := ho
  obtain ⟨hd, rfl⟩ := gd_and2 ho
  obtain rfl := gd_go_inj hs
  exact ⟨rfl, lv_lconst hx hb hd rfl (gd_wz (kk _ _ _ hH hL hS))⟩
theorem gd_s_aconst_null  (F : gd_FF Z M p R s mI args meth c) (hH : gd_HR Z m H) (hL : gd_LR Z M loc ls) (hS : va_S (gz_A Z) s.heap H locs) (ho : gd_okE (gd_rc M) (pc, .aconst_null, len, w, a, b, cc, z) = true) (hs : gd_step M (pc, .aconst_null, len, w, a, b, cc, z) loc st m = gd_go d) (kk : gd_KK p l e R s mI args below meth c cells slots Q Z M m d) : d.1 = M ∧ W p l e R s mI args below meth c H locs cells slots Q (F0 mI pc ls (st.map (gd_cv Z))) := by
  obtain ⟨hx, hb, hml, hr, hown, hts, hlk, hnm, hE, hfr, hlo, htb1⟩ := F
  unfold gd_step at hs
  dsimp only at hs
  have ho : (decide (decode (gr_b (gd_rc M)) pc = .ok (.aconst_null, len)) && _) = true := ho
  have ho : (decide (decode (gr_b (gd_rc M)) pc = .ok (.aconst_null, len)) && Nat.beq len 1) = true := ho
  obtain ⟨hd, rfl⟩ := gd_and2 ho
  obtain rfl := gd_go_inj hs
  exact ⟨rfl, lv_null hx hb hd (gd_wz (kk _ _ _ hH hL hS))⟩
theorem gd_s_iadd  (F : gd_FF Z M p R s mI args meth c) (hH : gd_HR Z m H) (hL : gd_LR Z M loc ls) (hS : va_S (gz_A Z) s.heap H locs) (ho : gd_okE (gd_rc M) (pc, .iadd, len, w, a, b, cc, z) = true) (hs : gd_step M (pc, .iadd, len, w, a, b, cc, z) loc st m = gd_go d) (kk : gd_KK p l e R s mI args below meth c cells slots Q Z M m d) : d.1 = M ∧ W p l e R s mI args below meth c H locs cells slots Q (F0 mI pc ls (st.map (gd_cv Z))) := by
  obtain ⟨hx, hb, hml, hr, hown, hts, hlk, hnm, hE, hfr, hlo, htb1⟩ := F
  unfold gd_step at hs
  dsimp only at hs
  have ho : (decide (decode (gr_b (gd_rc M)) pc = .ok (.iadd, len)) && _) = true := ho
  have ho : (decide (decode (gr_b (gd_rc M)) pc = .ok (.iadd, len)) && Nat.beq len 1) = true := ho
  obtain ⟨hd, rfl⟩ := gd_and2 ho
  split at hs
  · obtain rfl := gd_go_inj hs
    exact ⟨rfl, lv_iadd hx hb hd (gd_wz (kk _ _ _ hH hL hS))⟩
  · cases hs
theorem gd_s_isub  (F : gd_FF Z M p R s mI args meth c) (hH : gd_HR Z m H) (hL : gd_LR Z M loc ls) (hS : va_S (gz_A Z) s.heap H locs) (ho : gd_okE (gd_rc M) (pc, .isub, len, w, a, b, cc, z) = true) (hs : gd_step M (pc, .isub, len, w, a, b, cc, z) loc st m = gd_go d) (kk : gd_KK p l e R s mI args below meth c cells slots Q Z M m d) : d.1 = M ∧ W p l e R s mI args below meth c H locs cells slots Q (F0 mI pc ls (st.map (gd_cv Z))) := by
  obtain ⟨hx, hb, hml, hr, hown, hts, hlk, hnm, hE, hfr, hlo, htb1⟩ := F
  unfold gd_step at hs
  dsimp only at hs
  have ho : (decide (decode (gr_b (gd_rc M)) pc = .ok (.isub, len)) && _) = true := ho
  have ho : (decide (decode (gr_b (gd_rc M)) pc = .ok (.isub, len)) && Nat.beq len 1) = true := ho
  obtain ⟨hd, rfl⟩ := gd_and2 ho
  split at hs
  · obtain rfl := gd_go_inj hs
    exact ⟨rfl, lv_isub hx hb hd (gd_wz (kk _ _ _ hH hL hS))⟩
  · cases hs
theorem gd_s_imul  (F : gd_FF Z M p R s mI args meth c) (hH : gd_HR Z m H) (hL : gd_LR Z M loc ls) (hS : va_S (gz_A Z) s.heap H locs) (ho : gd_okE (gd_rc M) (pc, .imul, len, w, a, b, cc, z) = true) (hs : gd_step M (pc, .imul, len, w, a, b, cc, z) loc st m = gd_go d) (kk : gd_KK p l e R s mI args below meth c cells slots Q Z M m d) : d.1 = M ∧ W p l e R s mI args below meth c H locs cells slots Q (F0 mI pc ls (st.map (gd_cv Z))) := by
  obtain ⟨hx, hb, hml, hr, hown, hts, hlk, hnm, hE, hfr, hlo, htb1⟩ := F
  unfold gd_step at hs
  dsimp only at hs
  have ho : (decide (decode (gr_b (gd_rc M)) pc = .ok (.imul, len)) && _) = true := ho
  have ho : (decide (decode (gr_b (gd_rc M)) pc = .ok (.imul, len)) && Nat.beq len 1) = true := ho
  obtain ⟨hd, rfl⟩ := gd_and2 ho
  split at hs
  · obtain rfl := gd_go_inj hs
    exact ⟨rfl, lv_imul hx hb hd (gd_wz (kk _ _ _ hH hL hS))⟩
  · cases hs
theorem gd_s_iand  (F : gd_FF Z M p R s mI args meth c) (hH : gd_HR Z m H) (hL : gd_LR Z M loc ls) (hS : va_S (gz_A Z) s.heap H locs) (ho : gd_okE (gd_rc M) (pc, .iand, len, w, a, b, cc, z) = true) (hs : gd_step M (pc, .iand, len, w, a, b, cc, z) loc st m = gd_go d) (kk : gd_KK p l e R s mI args below meth c cells slots Q Z M m d) : d.1 = M ∧ W p l e R s mI args below meth c H locs cells slots Q (F0 mI pc ls (st.map (gd_cv Z))) := by
  obtain ⟨hx, hb, hml, hr, hown, hts, hlk, hnm, hE, hfr, hlo, htb1⟩ := F
  unfold gd_step at hs
  dsimp only at hs
  have ho : (decide (decode (gr_b (gd_rc M)) pc = .ok (.iand, len)) && _) = true := ho
  have ho : (decide (decode (gr_b (gd_rc M)) pc = .ok (.iand, len)) && Nat.beq len 1) = true := ho
  obtain ⟨hd, rfl⟩ := gd_and2 ho
  split at hs
  · obtain rfl := gd_go_inj hs
    exact ⟨rfl, lv_iand hx hb hd (gd_wz (kk _ _ _ hH hL hS))⟩
  · cases hs
theorem gd_s_ior  (F : gd_FF Z M p R s mI args meth c) (hH : gd_HR Z m H) (hL : gd_LR Z M loc ls) (hS : va_S (gz_A Z) s.heap H locs) (ho : gd_okE (gd_rc M) (pc, .ior, len, w, a, b, cc, z) = true) (hs : gd_step M (pc, .ior, len, w, a, b, cc, z) loc st m = gd_go d) (kk : gd_KK p l e R s mI args below meth c cells slots Q Z M m d) : d.1 = M ∧ W p l e R s mI args below meth c H locs cells slots Q (F0 mI pc ls (st.map (gd_cv Z))) := by
  obtain ⟨hx, hb, hml, hr, hown, hts, hlk, hnm, hE, hfr, hlo, htb1⟩ := F
  unfold gd_step at hs
  dsimp only at hs
  have ho : (decide (decode (gr_b (gd_rc M)) pc = .ok (.ior, len)) && _) = true := ho
  have ho : (decide (decode (gr_b (gd_rc M)) pc = .ok (.ior, len)) && Nat.beq len 1) = true := ho
  obtain ⟨hd, rfl⟩ := gd_and2 ho
  split at hs
  · obtain rfl := gd_go_inj hs
    exact ⟨rfl, lv_ior hx hb hd (gd_wz (kk _ _ _ hH hL hS))⟩
  · cases hs
theorem gd_s_ixor  (F : gd_FF Z M p R s mI args meth c) (hH : gd_HR Z m H) (hL : gd_LR Z M loc ls) (hS : va_S (gz_A Z) s.heap H locs) (ho : gd_okE (gd_rc M) (pc, .ixor, len, w, a, b, cc, z) = true) (hs : gd_step M (pc, .ixor, len, w, a, b, cc, z) loc st m = gd_go d) (kk : gd_KK p l e R s mI args below meth c cells slots Q Z M m d) : d.1 = M ∧ W p l e R s mI args below meth c H locs cells slots Q (F0 mI pc ls (st.map (gd_cv Z))) := by
  obtain ⟨hx, hb, hml, hr, hown, hts, hlk, hnm, hE, hfr, hlo, htb1⟩ := F
  unfold gd_step at hs
  dsimp only at hs
  have ho : (decide (decode (gr_b (gd_rc M)) pc = .ok (.ixor, len)) && _) = true := ho
  have ho : (decide (decode (gr_b (gd_rc M)) pc = .ok (.ixor, len)) && Nat.beq len 1) = true := ho
  obtain ⟨hd, rfl⟩ := gd_and2 ho
  split at hs
  · obtain rfl := gd_go_inj hs
    exact ⟨rfl, lv_ixor hx hb hd (gd_wz (kk _ _ _ hH hL hS))⟩
  · cases hs
theorem gd_s_ishl  (F : gd_FF Z M p R s mI args meth c) (hH : gd_HR Z m H) (hL : gd_LR Z M loc ls) (hS : va_S (gz_A Z) s.heap H locs) (ho : gd_okE (gd_rc M) (pc, .ishl, len, w, a, b, cc, z) = true) (hs : gd_step M (pc, .ishl, len, w, a, b, cc, z) loc st m = gd_go d) (kk : gd_KK p l e R s mI args below meth c cells slots Q Z M m d) : d.1 = M ∧ W p l e R s mI args below meth c H locs cells slots Q (F0 mI pc ls (st.map (gd_cv Z))) := by
  obtain ⟨hx, hb, hml, hr, hown, hts, hlk, hnm, hE, hfr, hlo, htb1⟩ := F
  unfold gd_step at hs
  dsimp only at hs
  have ho : (decide (decode (gr_b (gd_rc M)) pc = .ok (.ishl, len)) && _) = true := ho
  have ho : (decide (decode (gr_b (gd_rc M)) pc = .ok (.ishl, len)) && Nat.beq len 1) = true := ho
  obtain ⟨hd, rfl⟩ := gd_and2 ho
  split at hs
  · obtain rfl := gd_go_inj hs
    exact ⟨rfl, lv_ishl hx hb hd (gd_wz (kk _ _ _ hH hL hS))⟩
  · cases hs
theorem gd_s_ishr  (F : gd_FF Z M p R s mI args meth c) (hH : gd_HR Z m H) (hL : gd_LR Z M loc ls) (hS : va_S (gz_A Z) s.heap H locs) (ho : gd_okE (gd_rc M) (pc, .ishr, len, w, a, b, cc, z) = true) (hs : gd_step M (pc, .ishr, len, w, a, b, cc, z) loc st m = gd_go d) (kk : gd_KK p l e R s mI args below meth c cells slots Q Z M m d) : d.1 = M ∧ W p l e R s mI args below meth c H locs cells slots Q (F0 mI pc ls (st.map (gd_cv Z))) := by
  obtain ⟨hx, hb, hml, hr, hown, hts, hlk, hnm, hE, hfr, hlo, htb1⟩ := F
  unfold gd_step at hs
  dsimp only at hs
  have ho : (decide (decode (gr_b (gd_rc M)) pc = .ok (.ishr, len)) && _) = true := ho
  have ho : (decide (decode (gr_b (gd_rc M)) pc = .ok (.ishr, len)) && Nat.beq len 1) = true := ho
  obtain ⟨hd, rfl⟩ := gd_and2 ho
  split at hs
  · obtain rfl := gd_go_inj hs
    exact ⟨rfl, lv_ishr hx hb hd (gd_wz (kk _ _ _ hH hL hS))⟩
  · cases hs
theorem gd_s_lor  (F : gd_FF Z M p R s mI args meth c) (hH : gd_HR Z m H) (hL : gd_LR Z M loc ls) (hS : va_S (gz_A Z) s.heap H locs) (ho : gd_okE (gd_rc M) (pc, .lor, len, w, a, b, cc, z) = true) (hs : gd_step M (pc, .lor, len, w, a, b, cc, z) loc st m = gd_go d) (kk : gd_KK p l e R s mI args below meth c cells slots Q Z M m d) : d.1 = M ∧ W p l e R s mI args below meth c H locs cells slots Q (F0 mI pc ls (st.map (gd_cv Z))) := by
  obtain ⟨hx, hb, hml, hr, hown, hts, hlk, hnm, hE, hfr, hlo, htb1⟩ := F
  unfold gd_step at hs
  dsimp only at hs
  have ho : (decide (decode (gr_b (gd_rc M)) pc = .ok (.lor, len)) && _) = true := ho
  have ho : (decide (decode (gr_b (gd_rc M)) pc = .ok (.lor, len)) && Nat.beq len 1) = true := ho
  obtain ⟨hd, rfl⟩ := gd_and2 ho
  split at hs
  · obtain rfl := gd_go_inj hs
    exact ⟨rfl, lv_lor hx hb hd (gd_wz (kk _ _ _ hH hL hS))⟩
  · cases hs
theorem gd_s_lsub  (F : gd_FF Z M p R s mI args meth c) (hH : gd_HR Z m H) (hL : gd_LR Z M loc ls) (hS : va_S (gz_A Z) s.heap H locs) (ho : gd_okE (gd_rc M) (pc, .lsub, len, w, a, b, cc, z) = true) (hs : gd_step M (pc, .lsub, len, w, a, b, cc, z) loc st m = gd_go d) (kk : gd_KK p l e R s mI args below meth c cells slots Q Z M m d) : d.1 = M ∧ W p l e R s mI args below meth c H locs cells slots Q (F0 mI pc ls (st.map (gd_cv Z))) := by
  obtain ⟨hx, hb, hml, hr, hown, hts, hlk, hnm, hE, hfr, hlo, htb1⟩ := F
  unfold gd_step at hs
  dsimp only at hs
  have ho : (decide (decode (gr_b (gd_rc M)) pc = .ok (.lsub, len)) && _) = true := ho
  have ho : (decide (decode (gr_b (gd_rc M)) pc = .ok (.lsub, len)) && Nat.beq len 1) = true := ho
  obtain ⟨hd, rfl⟩ := gd_and2 ho
  split at hs
  · obtain rfl := gd_go_inj hs
    exact ⟨rfl, lv_lsub hx hb hd (gd_wz (kk _ _ _ hH hL hS))⟩
  · cases hs
theorem gd_s_ineg  (F : gd_FF Z M p R s mI args meth c) (hH : gd_HR Z m H) (hL : gd_LR Z M loc ls) (hS : va_S (gz_A Z) s.heap H locs) (ho : gd_okE (gd_rc M) (pc, .ineg, len, w, a, b, cc, z) = true) (hs : gd_step M (pc, .ineg, len, w, a, b, cc, z) loc st m = gd_go d) (kk : gd_KK p l e R s mI args below meth c cells slots Q Z M m d) : d.1 = M ∧ W p l e R s mI args below meth c H locs cells slots Q (F0 mI pc ls (st.map (gd_cv Z))) := by
  obtain ⟨hx, hb, hml, hr, hown, hts, hlk, hnm, hE, hfr, hlo, htb1⟩ := F
  unfold gd_step at hs
  dsimp only at hs
  have ho : (decide (decode (gr_b (gd_rc M)) pc = .ok (.ineg, len)) && _) = true := ho
  have ho : (decide (decode (gr_b (gd_rc M)) pc = .ok (.ineg, len)) && Nat.beq len 1) = true := ho
  obtain ⟨hd, rfl⟩ := gd_and2 ho
  split at hs
  · obtain rfl := gd_go_inj hs
    exact ⟨rfl, lv_ineg hx hb hd (gd_wz (kk _ _ _ hH hL hS))⟩
  · cases hs
theorem gd_s_iushr  (F : gd_FF Z M p R s mI args meth c) (hH : gd_HR Z m H) (hL : gd_LR Z M loc ls) (hS : va_S (gz_A Z) s.heap H locs) (ho : gd_okE (gd_rc M) (pc, .iushr, len, w, a, b, cc, z) = true) (hs : gd_step M (pc, .iushr, len, w, a, b, cc, z) loc st m = gd_go d) (kk : gd_KK p l e R s mI args below meth c cells slots Q Z M m d) : d.1 = M ∧ W p l e R s mI args below meth c H locs cells slots Q (F0 mI pc ls (st.map (gd_cv Z))) := by
  obtain ⟨hx, hb, hml, hr, hown, hts, hlk, hnm, hE, hfr, hlo, htb1⟩ := F
  unfold gd_step at hs
  dsimp only at hs
  have ho : (decide (decode (gr_b (gd_rc M)) pc = .ok (.iushr, len)) && _) = true := ho
  have ho : (decide (decode (gr_b (gd_rc M)) pc = .ok (.iushr, len)) && Nat.beq len 1) = true := ho
  obtain ⟨hd, rfl⟩ := gd_and2 ho
  split at hs
  · obtain rfl := gd_go_inj hs
    exact ⟨rfl, lv_iushr hx hb hd rfl (gd_wz (kk _ _ _ hH hL hS))⟩
  · cases hs
theorem gd_s_i2b  (F : gd_FF Z M p R s mI args meth c) (hH : gd_HR Z m H) (hL : gd_LR Z M loc ls) (hS : va_S (gz_A Z) s.heap H locs) (ho : gd_okE (gd_rc M) (pc, .i2b, len, w, a, b, cc, z) = true) (hs : gd_step M (pc, .i2b, len, w, a, b, cc, z) loc st m = gd_go d) (kk : gd_KK p l e R s mI args below meth c cells slots Q Z M m d) : d.1 = M ∧ W p l e R s mI args below meth c H locs cells slots Q (F0 mI pc ls (st.map (gd_cv Z))) := by
  obtain ⟨hx, hb, hml, hr, hown, hts, hlk, hnm, hE, hfr, hlo, htb1⟩ := F
  unfold gd_step at hs
  dsimp only at hs
  have ho : (decide (decode (gr_b (gd_rc M)) pc = .ok (.i2b, len)) && _) = true := ho
  have ho : (decide (decode (gr_b (gd_rc M)) pc = .ok (.i2b, len)) && Nat.beq len 1) = true := ho
  obtain ⟨hd, rfl⟩ := gd_and2 ho
  split at hs
  · obtain rfl := gd_go_inj hs
    exact ⟨rfl, lv_i2b hx hb hd rfl (gd_wz (kk _ _ _ hH hL hS))⟩
  · cases hs
theorem gd_s_i2c  (F : gd_FF Z M p R s mI args meth c) (hH : gd_HR Z m H) (hL : gd_LR Z M loc ls) (hS : va_S (gz_A Z) s.heap H locs) (ho : gd_okE (gd_rc M) (pc, .i2c, len, w, a, b, cc, z) = true) (hs : gd_step M (pc, .i2c, len, w, a, b, cc, z) loc st m = gd_go d) (kk : gd_KK p l e R s mI args below meth c cells slots Q Z M m d) : d.1 = M ∧ W p l e R s mI args below meth c H locs cells slots Q (F0 mI pc ls (st.map (gd_cv Z))) := by
  obtain ⟨hx, hb, hml, hr, hown, hts, hlk, hnm, hE, hfr, hlo, htb1⟩ := F
  unfold gd_step at hs
  dsimp only at hs
  have ho : (decide (decode (gr_b (gd_rc M)) pc = .ok (.i2c, len)) && _) = true := ho
  have ho : (decide (decode (gr_b (gd_rc M)) pc = .ok (.i2c, len)) && Nat.beq len 1) = true := ho
  obtain ⟨hd, rfl⟩ := gd_and2 ho
  split at hs
  · obtain rfl := gd_go_inj hs
    exact ⟨rfl, lv_i2c hx hb hd rfl (gd_wz (kk _ _ _ hH hL hS))⟩
  · cases hs
theorem gd_s_i2l  (F : gd_FF Z M p R s mI args meth c) (hH : gd_HR Z m H) (hL : gd_LR Z M loc ls) (hS : va_S (gz_A Z) s.heap H locs) (ho : gd_okE (gd_rc M) (pc, .i2l, len, w, a, b, cc, z) = true) (hs : gd_step M (pc, .i2l, len, w, a, b, cc, z) loc st m = gd_go d) (kk : gd_KK p l e R s mI args below meth c cells slots Q Z M m d) : d.1 = M ∧ W p l e R s mI args below meth c H locs cells slots Q (F0 mI pc ls (st.map (gd_cv Z))) := by
  obtain ⟨hx, hb, hml, hr, hown, hts, hlk, hnm, hE, hfr, hlo, htb1⟩ := F
  unfold gd_step at hs
  dsimp only at hs
  have ho : (decide (decode (gr_b (gd_rc M)) pc = .ok (.i2l, len)) && _) = true := ho
  have ho : (decide (decode (gr_b (gd_rc M)) pc = .ok (.i2l, len)) && Nat.beq len 1) = true := ho
  obtain ⟨hd, rfl⟩ := gd_and2 ho
  split at hs
  · obtain rfl := gd_go_inj hs
    exact ⟨rfl, lv_i2l hx hb hd rfl (gd_wz (kk _ _ _ hH hL hS))⟩
  · cases hs
theorem gd_s_lshl  (F : gd_FF Z M p R s mI args meth c) (hH : gd_HR Z m H) (hL : gd_LR Z M loc ls) (hS : va_S (gz_A Z) s.heap H locs) (ho : gd_okE (gd_rc M) (pc, .lshl, len, w, a, b, cc, z) = true) (hs : gd_step M (pc, .lshl, len, w, a, b, cc, z) loc st m = gd_go d) (kk : gd_KK p l e R s mI args below meth c cells slots Q Z M m d) : d.1 = M ∧ W p l e R s mI args below meth c H locs cells slots Q (F0 mI pc ls (st.map (gd_cv Z))) := by
  obtain ⟨hx, hb, hml, hr, hown, hts, hlk, hnm, hE, hfr, hlo, htb1⟩ := F
  unfold gd_step at hs
  dsimp only at hs
  have ho : (decide (decode (gr_b (gd_rc M)) pc = .ok (.lshl, len)) && _) = true := ho
  have ho : (decide (decode (gr_b (gd_rc M)) pc = .ok (.lshl, len)) && Nat.beq len 1) = true := ho
  obtain ⟨hd, rfl⟩ := gd_and2 ho
  split at hs
  · obtain rfl := gd_go_inj hs
    exact ⟨rfl, lv_lshl hx hb hd rfl (gd_wz (kk _ _ _ hH hL hS))⟩
  · cases hs
theorem gd_s_lcmp  (F : gd_FF Z M p R s mI args meth c) (hH : gd_HR Z m H) (hL : gd_LR Z M loc ls) (hS : va_S (gz_A Z) s.heap H locs) (ho : gd_okE (gd_rc M) (pc, .lcmp, len, w, a, b, cc, z) = true) (hs : gd_step M (pc, .lcmp, len, w, a, b, cc, z) loc st m = gd_go d) (kk : gd_KK p l e R s mI args below meth c cells slots Q Z M m d) : d.1 = M ∧ W p l e R s mI args below meth c H locs cells slots Q (F0 mI pc ls (st.map (gd_cv Z))) := by
  obtain ⟨hx, hb, hml, hr, hown, hts, hlk, hnm, hE, hfr, hlo, htb1⟩ := F
  unfold gd_step at hs
  dsimp only at hs
  have ho : (decide (decode (gr_b (gd_rc M)) pc = .ok (.lcmp, len)) && _) = true := ho
  have ho : (decide (decode (gr_b (gd_rc M)) pc = .ok (.lcmp, len)) && Nat.beq len 1) = true := ho
  obtain ⟨hd, rfl⟩ := gd_and2 ho
  split at hs
  · obtain rfl := gd_go_inj hs
    exact ⟨rfl, W.lcmp hx hb hd (gd_wz (kk _ _ _ hH hL hS))⟩
  · cases hs
theorem gd_s_idiv  (F : gd_FF Z M p R s mI args meth c) (hH : gd_HR Z m H) (hL : gd_LR Z M loc ls) (hS : va_S (gz_A Z) s.heap H locs) (ho : gd_okE (gd_rc M) (pc, .idiv, len, w, a, b, cc, z) = true) (hs : gd_step M (pc, .idiv, len, w, a, b, cc, z) loc st m = gd_go d) (kk : gd_KK p l e R s mI args below meth c cells slots Q Z M m d) : d.1 = M ∧ W p l e R s mI args below meth c H locs cells slots Q (F0 mI pc ls (st.map (gd_cv Z))) := by
  obtain ⟨hx, hb, hml, hr, hown, hts, hlk, hnm, hE, hfr, hlo, htb1⟩ := F
  unfold gd_step at hs
  dsimp only at hs
  have ho : (decide (decode (gr_b (gd_rc M)) pc = .ok (.idiv, len)) && _) = true := ho
  have ho : (decide (decode (gr_b (gd_rc M)) pc = .ok (.idiv, len)) && Nat.beq len 1) = true := ho
  obtain ⟨hd, rfl⟩ := gd_and2 ho
  split at hs
  · split at hs
    · cases hs
    · next hne =>
      obtain rfl := gd_go_inj hs
      exact ⟨rfl, lv_idiv hx hb hd hne (gd_wz (kk _ _ _ hH hL hS))⟩
  · cases hs
theorem gd_s_irem  (F : gd_FF Z M p R s mI args meth c) (hH : gd_HR Z m H) (hL : gd_LR Z M loc ls) (hS : va_S (gz_A Z) s.heap H locs) (ho : gd_okE (gd_rc M) (pc, .irem, len, w, a, b, cc, z) = true) (hs : gd_step M (pc, .irem, len, w, a, b, cc, z) loc st m = gd_go d) (kk : gd_KK p l e R s mI args below meth c cells slots Q Z M m d) : d.1 = M ∧ W p l e R s mI args below meth c H locs cells slots Q (F0 mI pc ls (st.map (gd_cv Z))) := by
  obtain ⟨hx, hb, hml, hr, hown, hts, hlk, hnm, hE, hfr, hlo, htb1⟩ := F
  unfold gd_step at hs
  dsimp only at hs
  have ho : (decide (decode (gr_b (gd_rc M)) pc = .ok (.irem, len)) && _) = true := ho
  have ho : (decide (decode (gr_b (gd_rc M)) pc = .ok (.irem, len)) && Nat.beq len 1) = true := ho
  obtain ⟨hd, rfl⟩ := gd_and2 ho
  split at hs
  · split at hs
    · cases hs
    · next hne =>
      obtain rfl := gd_go_inj hs
      exact ⟨rfl, lv_irem hx hb hd hne (gd_wz (kk _ _ _ hH hL hS))⟩
  · cases hs
theorem gd_s_iload {n : Nat} (F : gd_FF Z M p R s mI args meth c) (hH : gd_HR Z m H) (hL : gd_LR Z M loc ls) (hS : va_S (gz_A Z) s.heap H locs) (ho : gd_okE (gd_rc M) (pc, .iload n, len, w, a, b, cc, z) = true) (hs : gd_step M (pc, .iload n, len, w, a, b, cc, z) loc st m = gd_go d) (kk : gd_KK p l e R s mI args below meth c cells slots Q Z M m d) : d.1 = M ∧ W p l e R s mI args below meth c H locs cells slots Q (F0 mI pc ls (st.map (gd_cv Z))) := by
  obtain ⟨hx, hb, hml, hr, hown, hts, hlk, hnm, hE, hfr, hlo, htb1⟩ := F
  unfold gd_step at hs
  dsimp only at hs
  have ho : (decide (decode (gr_b (gd_rc M)) pc = .ok (.iload n, len)) && _) = true := ho
  have ho : (decide (decode (gr_b (gd_rc M)) pc = .ok (.iload n, len)) && Nat.beq len 2) = true := ho
  obtain ⟨hd, rfl⟩ := gd_and2 ho
  split at hs
  · next x hx1 =>
    obtain rfl := gd_go_inj hs
    have hl := hL.2.2.1 n (by rw [hx1]; intro q; cases q)
    rw [hx1] at hl
    exact ⟨rfl, lv_iload hx hb hd hl (gd_wz (kk _ _ _ hH hL hS))⟩
  · cases hs
theorem gd_s_lload {n : Nat} (F : gd_FF Z M p R s mI args meth c) (hH : gd_HR Z m H) (hL : gd_LR Z M loc ls) (hS : va_S (gz_A Z) s.heap H locs) (ho : gd_okE (gd_rc M) (pc, .lload n, len, w, a, b, cc, z) = true) (hs : gd_step M (pc, .lload n, len, w, a, b, cc, z) loc st m = gd_go d) (kk : gd_KK p l e R s mI args below meth c cells slots Q Z M m d) : d.1 = M ∧ W p l e R s mI args below meth c H locs cells slots Q (F0 mI pc ls (st.map (gd_cv Z))) := by
  obtain ⟨hx, hb, hml, hr, hown, hts, hlk, hnm, hE, hfr, hlo, htb1⟩ := F
  unfold gd_step at hs
  dsimp only at hs
  have ho : (decide (decode (gr_b (gd_rc M)) pc = .ok (.lload n, len)) && _) = true := ho
  have ho : (decide (decode (gr_b (gd_rc M)) pc = .ok (.lload n, len)) && Nat.beq len 2) = true := ho
  obtain ⟨hd, rfl⟩ := gd_and2 ho
  split at hs
  · next x hx1 =>
    obtain rfl := gd_go_inj hs
    have hl := hL.2.2.1 n (by rw [hx1]; intro q; cases q)
    rw [hx1] at hl
    exact ⟨rfl, lv_lload hx hb hd hl (gd_wz (kk _ _ _ hH hL hS))⟩
  · cases hs
theorem gd_s_iload_n {k : Fin 4} (F : gd_FF Z M p R s mI args meth c) (hH : gd_HR Z m H) (hL : gd_LR Z M loc ls) (hS : va_S (gz_A Z) s.heap H locs) (ho : gd_okE (gd_rc M) (pc, .iload_n k, len, w, a, b, cc, z) = true) (hs : gd_step M (pc, .iload_n k, len, w, a, b, cc, z) loc st m = gd_go d) (kk : gd_KK p l e R s mI args below meth c cells slots Q Z M m d) : d.1 = M ∧ W p l e R s mI args below meth c H locs cells slots Q (F0 mI pc ls (st.map (gd_cv Z))) := by
  obtain ⟨hx, hb, hml, hr, hown, hts, hlk, hnm, hE, hfr, hlo, htb1⟩ := F
  unfold gd_step at hs
  dsimp only at hs
  have ho : (decide (decode (gr_b (gd_rc M)) pc = .ok (.iload_n k, len)) && _) = true := ho
  have ho : (decide (decode (gr_b (gd_rc M)) pc = .ok (.iload_n k, len)) && Nat.beq len 1) = true := ho
  obtain ⟨hd, rfl⟩ := gd_and2 ho
  split at hs
  · next x hx1 =>
    obtain rfl := gd_go_inj hs
    have hl := hL.2.2.1 k (by rw [hx1]; intro q; cases q)
    rw [hx1] at hl
    exact ⟨rfl, lv_iload_n hx hb hd rfl hl (gd_wz (kk _ _ _ hH hL hS))⟩
  · cases hs
theorem gd_s_lload_n {k : Fin 4} (F : gd_FF Z M p R s mI args meth c) (hH : gd_HR Z m H) (hL : gd_LR Z M loc ls) (hS : va_S (gz_A Z) s.heap H locs) (ho : gd_okE (gd_rc M) (pc, .lload_n k, len, w, a, b, cc, z) = true) (hs : gd_step M (pc, .lload_n k, len, w, a, b, cc, z) loc st m = gd_go d) (kk : gd_KK p l e R s mI args below meth c cells slots Q Z M m d) : d.1 = M ∧ W p l e R s mI args below meth c H locs cells slots Q (F0 mI pc ls (st.map (gd_cv Z))) := by
  obtain ⟨hx, hb, hml, hr, hown, hts, hlk, hnm, hE, hfr, hlo, htb1⟩ := F
  unfold gd_step at hs
  dsimp only at hs
  have ho : (decide (decode (gr_b (gd_rc M)) pc = .ok (.lload_n k, len)) && _) = true := ho
  have ho : (decide (decode (gr_b (gd_rc M)) pc = .ok (.lload_n k, len)) && Nat.beq len 1) = true := ho
  obtain ⟨hd, rfl⟩ := gd_and2 ho
  split at hs
  · next x hx1 =>
    obtain rfl := gd_go_inj hs
    have hl := hL.2.2.1 k (by rw [hx1]; intro q; cases q)
    rw [hx1] at hl
    exact ⟨rfl, lv_lload_n hx hb hd rfl hl (gd_wz (kk _ _ _ hH hL hS))⟩
  · cases hs
theorem gd_s_aload {n : Nat} (F : gd_FF Z M p R s mI args meth c) (hH : gd_HR Z m H) (hL : gd_LR Z M loc ls) (hS : va_S (gz_A Z) s.heap H locs) (ho : gd_okE (gd_rc M) (pc, .aload n, len, w, a, b, cc, z) = true) (hs : gd_step M (pc, .aload n, len, w, a, b, cc, z) loc st m = gd_go d) (kk : gd_KK p l e R s mI args below meth c cells slots Q Z M m d) : d.1 = M ∧ W p l e R s mI args below meth c H locs cells slots Q (F0 mI pc ls (st.map (gd_cv Z))) := by
  obtain ⟨hx, hb, hml, hr, hown, hts, hlk, hnm, hE, hfr, hlo, htb1⟩ := F
  unfold gd_step at hs
  dsimp only at hs
  have ho : (decide (decode (gr_b (gd_rc M)) pc = .ok (.aload n, len)) && _) = true := ho
  have ho : (decide (decode (gr_b (gd_rc M)) pc = .ok (.aload n, len)) && Nat.beq len 2) = true := ho
  obtain ⟨hd, rfl⟩ := gd_and2 ho
  split at hs
  · next x hx1 =>
    obtain rfl := gd_go_inj hs
    have hl := hL.2.2.1 n (by rw [hx1]; intro q; cases q)
    rw [hx1] at hl
    have kz := gd_wz (kk _ _ _ hH hL hS)
    refine ⟨rfl, ?_⟩
    have he : gd_cv Z (.ref x) = gd_adr Z x := rfl
    rw [List.map_cons, he] at kz
    rw [he] at hl
    rcases gd_adr_nr hE.1 x with h0 | ⟨t, h0⟩
    · rw [h0] at kz hl
      exact lv_aloadN hx hb hd hl kz
    · rw [h0] at kz hl
      exact lv_aload hx hb hd hl kz
  · cases hs
theorem gd_s_aload_n {k : Fin 4} (F : gd_FF Z M p R s mI args meth c) (hH : gd_HR Z m H) (hL : gd_LR Z M loc ls) (hS : va_S (gz_A Z) s.heap H locs) (ho : gd_okE (gd_rc M) (pc, .aload_n k, len, w, a, b, cc, z) = true) (hs : gd_step M (pc, .aload_n k, len, w, a, b, cc, z) loc st m = gd_go d) (kk : gd_KK p l e R s mI args below meth c cells slots Q Z M m d) : d.1 = M ∧ W p l e R s mI args below meth c H locs cells slots Q (F0 mI pc ls (st.map (gd_cv Z))) := by
  obtain ⟨hx, hb, hml, hr, hown, hts, hlk, hnm, hE, hfr, hlo, htb1⟩ := F
  unfold gd_step at hs
  dsimp only at hs
  have ho : (decide (decode (gr_b (gd_rc M)) pc = .ok (.aload_n k, len)) && _) = true := ho
  have ho : (decide (decode (gr_b (gd_rc M)) pc = .ok (.aload_n k, len)) && Nat.beq len 1) = true := ho
  obtain ⟨hd, rfl⟩ := gd_and2 ho
  split at hs
  · next x hx1 =>
    obtain rfl := gd_go_inj hs
    have hl := hL.2.2.1 k (by rw [hx1]; intro q; cases q)
    rw [hx1] at hl
    have kz := gd_wz (kk _ _ _ hH hL hS)
    refine ⟨rfl, ?_⟩
    have he : gd_cv Z (.ref x) = gd_adr Z x := rfl
    rw [List.map_cons, he] at kz
    rw [he] at hl
    rcases gd_adr_nr hE.1 x with h0 | ⟨t, h0⟩
    · rw [h0] at kz hl
      exact lv_aload_nN hx hb hd rfl hl kz
    · rw [h0] at kz hl
      exact lv_aload_n hx hb hd rfl hl kz
  · cases hs
theorem gd_s_istore {n : Nat} (F : gd_FF Z M p R s mI args meth c) (hH : gd_HR Z m H) (hL : gd_LR Z M loc ls) (hS : va_S (gz_A Z) s.heap H locs) (ho : gd_okE (gd_rc M) (pc, .istore n, len, w, a, b, cc, z) = true) (hs : gd_step M (pc, .istore n, len, w, a, b, cc, z) loc st m = gd_go d) (kk : gd_KK p l e R s mI args below meth c cells slots Q Z M m d) : d.1 = M ∧ W p l e R s mI args below meth c H locs cells slots Q (F0 mI pc ls (st.map (gd_cv Z))) := by
  obtain ⟨hx, hb, hml, hr, hown, hts, hlk, hnm, hE, hfr, hlo, htb1⟩ := F
  unfold gd_step at hs
  dsimp only at hs
  have ho : (decide (decode (gr_b (gd_rc M)) pc = .ok (.istore n, len)) && _) = true := ho
  have ho : (decide (decode (gr_b (gd_rc M)) pc = .ok (.istore n, len)) && Nat.beq len 2) = true := ho
  obtain ⟨hd, rfl⟩ := gd_and2 ho
  split at hs
  · next x r =>
    cases hok : gd_stOk (gr_lng (gd_rc M)) n (gr_ml (gd_rc M)) with
    | false => rw [hok] at hs; cases hs
    | true =>
      rw [hok] at hs
      obtain rfl := gd_go_inj hs
      have hlt := hok
      unfold gd_stOk at hlt
      have hlt := Nat.le_of_ble_eq_true (gd_andb (gd_andb hlt).1).1
      exact ⟨rfl, lv_istore hx hb hd (gd_lst_has hL) hlt rfl fun ls1 h1 => gd_wz (kk _ _ _ hH (gd_LR_st hE.1 hL (v := .int x) rfl rfl hok h1) hS)⟩
  · cases hs
theorem gd_s_istore_n {k : Fin 4} (F : gd_FF Z M p R s mI args meth c) (hH : gd_HR Z m H) (hL : gd_LR Z M loc ls) (hS : va_S (gz_A Z) s.heap H locs) (ho : gd_okE (gd_rc M) (pc, .istore_n k, len, w, a, b, cc, z) = true) (hs : gd_step M (pc, .istore_n k, len, w, a, b, cc, z) loc st m = gd_go d) (kk : gd_KK p l e R s mI args below meth c cells slots Q Z M m d) : d.1 = M ∧ W p l e R s mI args below meth c H locs cells slots Q (F0 mI pc ls (st.map (gd_cv Z))) := by
  obtain ⟨hx, hb, hml, hr, hown, hts, hlk, hnm, hE, hfr, hlo, htb1⟩ := F
  unfold gd_step at hs
  dsimp only at hs
  have ho : (decide (decode (gr_b (gd_rc M)) pc = .ok (.istore_n k, len)) && _) = true := ho
  have ho : (decide (decode (gr_b (gd_rc M)) pc = .ok (.istore_n k, len)) && Nat.beq len 1) = true := ho
  obtain ⟨hd, rfl⟩ := gd_and2 ho
  split at hs
  · next x r =>
    cases hok : gd_stOk (gr_lng (gd_rc M)) k (gr_ml (gd_rc M)) with
    | false => rw [hok] at hs; cases hs
    | true =>
      rw [hok] at hs
      obtain rfl := gd_go_inj hs
      have hlt := hok
      unfold gd_stOk at hlt
      have hlt := Nat.le_of_ble_eq_true (gd_andb (gd_andb hlt).1).1
      exact ⟨rfl, lv_istore_n hx hb hd rfl (gd_lst_has hL) hlt rfl fun ls1 h1 => gd_wz (kk _ _ _ hH (gd_LR_st hE.1 hL (v := .int x) rfl rfl hok h1) hS)⟩
  · cases hs
theorem gd_s_astore {n : Nat} (F : gd_FF Z M p R s mI args meth c) (hH : gd_HR Z m H) (hL : gd_LR Z M loc ls) (hS : va_S (gz_A Z) s.heap H locs) (ho : gd_okE (gd_rc M) (pc, .astore n, len, w, a, b, cc, z) = true) (hs : gd_step M (pc, .astore n, len, w, a, b, cc, z) loc st m = gd_go d) (kk : gd_KK p l e R s mI args below meth c cells slots Q Z M m d) : d.1 = M ∧ W p l e R s mI args below meth c H locs cells slots Q (F0 mI pc ls (st.map (gd_cv Z))) := by
  obtain ⟨hx, hb, hml, hr, hown, hts, hlk, hnm, hE, hfr, hlo, htb1⟩ := F
  unfold gd_step at hs
  dsimp only at hs
  have ho : (decide (decode (gr_b (gd_rc M)) pc = .ok (.astore n, len)) && _) = true := ho
  have ho : (decide (decode (gr_b (gd_rc M)) pc = .ok (.astore n, len)) && Nat.beq len 2) = true := ho
  obtain ⟨hd, rfl⟩ := gd_and2 ho
  split at hs
  · next x r =>
    cases hok : gd_stOk (gr_lng (gd_rc M)) n (gr_ml (gd_rc M)) with
    | false => rw [hok] at hs; cases hs
    | true =>
      rw [hok] at hs
      obtain rfl := gd_go_inj hs
      have hlt := hok
      unfold gd_stOk at hlt
      have hlt := Nat.le_of_ble_eq_true (gd_andb (gd_andb hlt).1).1
      refine ⟨rfl, ?_⟩
      have hst : ∀ ls1, lv_has ls1 (gr_ml (gd_rc M)) ((_, gd_cv Z (.ref x)) :: (gd_lst Z (gr_ml (gd_rc M)) loc).filter (fun q => !(q.1 == _) && !(q.1 + 1 == _ && q.2.category == 2))) → _ := fun ls1 h1 => gd_wz (kk _ _ _ hH (gd_LR_st hE.1 hL (v := .ref x) rfl rfl hok h1) hS)
      rw [List.map_cons]
      rw [show gd_cv Z (.ref x) = gd_adr Z x from rfl] at hst ⊢
      rcases gd_adr_nr hE.1 x with h0 | ⟨t, h0⟩
      · rw [h0] at hst ⊢
        exact lv_astoreN hx hb hd (gd_lst_has hL) hlt rfl hst
      · rw [h0] at hst ⊢
        exact lv_astore hx hb hd (gd_lst_has hL) hlt rfl hst
  · cases hs
theorem gd_s_astore_n {k : Fin 4} (F : gd_FF Z M p R s mI args meth c) (hH : gd_HR Z m H) (hL : gd_LR Z M loc ls) (hS : va_S (gz_A Z) s.heap H locs) (ho : gd_okE (gd_rc M) (pc, .astore_n k, len, w, a, b, cc, z) = true) (hs : gd_step M (pc, .astore_n k, len, w, a, b, cc, z) loc st m = gd_go d) (kk : gd_KK p l e R s mI args below meth c cells slots Q Z M m d) : d.1 = M ∧ W p l e R s mI args below meth c H locs cells slots Q (F0 mI pc ls (st.map (gd_cv Z))) := by
  obtain ⟨hx, hb, hml, hr, hown, hts, hlk, hnm, hE, hfr, hlo, htb1⟩ := F
  unfold gd_step at hs
  dsimp only at hs
  have ho : (decide (decode (gr_b (gd_rc M)) pc = .ok (.astore_n k, len)) && _) = true := ho
  have ho : (decide (decode (gr_b (gd_rc M)) pc = .ok (.astore_n k, len)) && Nat.beq len 1) = true := ho
  obtain ⟨hd, rfl⟩ := gd_and2 ho
  split at hs
  · next x r =>
    cases hok : gd_stOk (gr_lng (gd_rc M)) k (gr_ml (gd_rc M)) with
    | false => rw [hok] at hs; cases hs
    | true =>
      rw [hok] at hs
      obtain rfl := gd_go_inj hs
      have hlt := hok
      unfold gd_stOk at hlt
      have hlt := Nat.le_of_ble_eq_true (gd_andb (gd_andb hlt).1).1
      refine ⟨rfl, ?_⟩
      have hst : ∀ ls1, lv_has ls1 (gr_ml (gd_rc M)) ((_, gd_cv Z (.ref x)) :: (gd_lst Z (gr_ml (gd_rc M)) loc).filter (fun q => !(q.1 == _) && !(q.1 + 1 == _ && q.2.category == 2))) → _ := fun ls1 h1 => gd_wz (kk _ _ _ hH (gd_LR_st hE.1 hL (v := .ref x) rfl rfl hok h1) hS)
      rw [List.map_cons]
      rw [show gd_cv Z (.ref x) = gd_adr Z x from rfl] at hst ⊢
      rcases gd_adr_nr hE.1 x with h0 | ⟨t, h0⟩
      · rw [h0] at hst ⊢
        exact lv_astore_nN hx hb hd rfl (gd_lst_has hL) hlt rfl hst
      · rw [h0] at hst ⊢
        exact lv_astore_n hx hb hd rfl (gd_lst_has hL) hlt rfl hst
  · cases hs
theorem gd_s_iinc {n : Nat} {k : Int} (F : gd_FF Z M p R s mI args meth c) (hH : gd_HR Z m H) (hL : gd_LR Z M loc ls) (hS : va_S (gz_A Z) s.heap H locs) (ho : gd_okE (gd_rc M) (pc, .iinc n k, len, w, a, b, cc, z) = true) (hs : gd_step M (pc, .iinc n k, len, w, a, b, cc, z) loc st m = gd_go d) (kk : gd_KK p l e R s mI args below meth c cells slots Q Z M m d) : d.1 = M ∧ W p l e R s mI args below meth c H locs cells slots Q (F0 mI pc ls (st.map (gd_cv Z))) := by
  obtain ⟨hx, hb, hml, hr, hown, hts, hlk, hnm, hE, hfr, hlo, htb1⟩ := F
  unfold gd_step at hs
  dsimp only at hs
  have ho : (decide (decode (gr_b (gd_rc M)) pc = .ok (.iinc n k, len)) && _) = true := ho
  have ho : (decide (decode (gr_b (gd_rc M)) pc = .ok (.iinc n k, len)) && Nat.beq len 3) = true := ho
  obtain ⟨hd, rfl⟩ := gd_and2 ho
  split at hs
  · next x hx1 =>
    cases hok : gd_stOk (gr_lng (gd_rc M)) n (gr_ml (gd_rc M)) with
    | false => rw [hok] at hs; cases hs
    | true =>
      rw [hok] at hs
      obtain rfl := gd_go_inj hs
      have hlt := hok
      unfold gd_stOk at hlt
      have hlt := Nat.le_of_ble_eq_true (gd_andb (gd_andb hlt).1).1
      have hm : (n, Value.int x) ∈ gd_lst Z (gr_ml (gd_rc M)) loc := by
        have h2 := gd_lst_mem (Z := Z) (loc := loc) hlt (by rw [hx1]; intro q; cases q)
        rw [hx1] at h2
        exact h2
      obtain ⟨j, hj⟩ := List.getElem?_of_mem hm
      exact ⟨rfl, lv_iinc hx hb hd (gd_lst_has hL) hj rfl hlt rfl fun ls1 h1 => gd_wz (kk _ _ _ hH (gd_LR_st hE.1 hL (v := .int (x + Int32.ofInt k)) rfl rfl hok h1) hS)⟩
  · cases hs
theorem gd_s_dup  (F : gd_FF Z M p R s mI args meth c) (hH : gd_HR Z m H) (hL : gd_LR Z M loc ls) (hS : va_S (gz_A Z) s.heap H locs) (ho : gd_okE (gd_rc M) (pc, .dup, len, w, a, b, cc, z) = true) (hs : gd_step M (pc, .dup, len, w, a, b, cc, z) loc st m = gd_go d) (kk : gd_KK p l e R s mI args below meth c cells slots Q Z M m d) : d.1 = M ∧ W p l e R s mI args below meth c H locs cells slots Q (F0 mI pc ls (st.map (gd_cv Z))) := by
  obtain ⟨hx, hb, hml, hr, hown, hts, hlk, hnm, hE, hfr, hlo, htb1⟩ := F
  unfold gd_step at hs
  dsimp only at hs
  have ho : (decide (decode (gr_b (gd_rc M)) pc = .ok (.dup, len)) && _) = true := ho
  have ho : (decide (decode (gr_b (gd_rc M)) pc = .ok (.dup, len)) && Nat.beq len 1) = true := ho
  obtain ⟨hd, rfl⟩ := gd_and2 ho
  split at hs
  · obtain rfl := gd_go_inj hs
    exact ⟨rfl, lv_dup hx hb hd rfl (gd_wz (kk _ _ _ hH hL hS))⟩
  · next x r =>
    obtain rfl := gd_go_inj hs
    have hc : (gd_adr Z x).category = 1 := by rcases gd_adr_nr hE.1 x with h0 | ⟨t, h0⟩ <;> rw [h0] <;> rfl
    exact ⟨rfl, lv_dup (va := gd_adr Z x) hx hb hd hc (gd_wz (kk _ _ _ hH hL hS))⟩
  · cases hs
theorem gd_s_dup2  (F : gd_FF Z M p R s mI args meth c) (hH : gd_HR Z m H) (hL : gd_LR Z M loc ls) (hS : va_S (gz_A Z) s.heap H locs) (ho : gd_okE (gd_rc M) (pc, .dup2, len, w, a, b, cc, z) = true) (hs : gd_step M (pc, .dup2, len, w, a, b, cc, z) loc st m = gd_go d) (kk : gd_KK p l e R s mI args below meth c cells slots Q Z M m d) : d.1 = M ∧ W p l e R s mI args below meth c H locs cells slots Q (F0 mI pc ls (st.map (gd_cv Z))) := by
  obtain ⟨hx, hb, hml, hr, hown, hts, hlk, hnm, hE, hfr, hlo, htb1⟩ := F
  unfold gd_step at hs
  dsimp only at hs
  have ho : (decide (decode (gr_b (gd_rc M)) pc = .ok (.dup2, len)) && _) = true := ho
  have ho : (decide (decode (gr_b (gd_rc M)) pc = .ok (.dup2, len)) && Nat.beq len 1) = true := ho
  obtain ⟨hd, rfl⟩ := gd_and2 ho
  split at hs
  · next x y r =>
    obtain rfl := gd_go_inj hs
    have hc : (gd_adr Z y).category = 1 := by rcases gd_adr_nr hE.1 y with h0 | ⟨t, h0⟩ <;> rw [h0] <;> rfl
    exact ⟨rfl, lv_dup2_11 (va := .int x) (vb := gd_adr Z y) hx hb hd rfl hc (gd_wz (kk _ _ _ hH hL hS))⟩
  · cases hs
theorem gd_s_pop  (F : gd_FF Z M p R s mI args meth c) (hH : gd_HR Z m H) (hL : gd_LR Z M loc ls) (hS : va_S (gz_A Z) s.heap H locs) (ho : gd_okE (gd_rc M) (pc, .pop, len, w, a, b, cc, z) = true) (hs : gd_step M (pc, .pop, len, w, a, b, cc, z) loc st m = gd_go d) (kk : gd_KK p l e R s mI args below meth c cells slots Q Z M m d) : d.1 = M ∧ W p l e R s mI args below meth c H locs cells slots Q (F0 mI pc ls (st.map (gd_cv Z))) := by
  obtain ⟨hx, hb, hml, hr, hown, hts, hlk, hnm, hE, hfr, hlo, htb1⟩ := F
  unfold gd_step at hs
  dsimp only at hs
  have ho : (decide (decode (gr_b (gd_rc M)) pc = .ok (.pop, len)) && _) = true := ho
  have ho : (decide (decode (gr_b (gd_rc M)) pc = .ok (.pop, len)) && Nat.beq len 1) = true := ho
  obtain ⟨hd, rfl⟩ := gd_and2 ho
  split at hs
  · obtain rfl := gd_go_inj hs
    exact ⟨rfl, lv_pop hx hb hd rfl (gd_wz (kk _ _ _ hH hL hS))⟩
  · next x r =>
    obtain rfl := gd_go_inj hs
    have hc : (gd_adr Z x).category = 1 := by rcases gd_adr_nr hE.1 x with h0 | ⟨t, h0⟩ <;> rw [h0] <;> rfl
    exact ⟨rfl, lv_pop (va := gd_adr Z x) hx hb hd hc (gd_wz (kk _ _ _ hH hL hS))⟩
  · cases hs
theorem gd_s_goto {o : Int} (F : gd_FF Z M p R s mI args meth c) (hH : gd_HR Z m H) (hL : gd_LR Z M loc ls) (hS : va_S (gz_A Z) s.heap H locs) (ho : gd_okE (gd_rc M) (pc, .goto o, len, w, a, b, cc, z) = true) (hs : gd_step M (pc, .goto o, len, w, a, b, cc, z) loc st m = gd_go d) (kk : gd_KK p l e R s mI args below meth c cells slots Q Z M m d) : d.1 = M ∧ W p l e R s mI args below meth c H locs cells slots Q (F0 mI pc ls (st.map (gd_cv Z))) := by
  obtain ⟨hx, hb, hml, hr, hown, hts, hlk, hnm, hE, hfr, hlo, htb1⟩ := F
  unfold gd_step at hs
  dsimp only at hs
  have ho : (decide (decode (gr_b (gd_rc M)) pc = .ok (.goto o, len)) && _) = true := ho
  obtain ⟨hd, ho2⟩ := gd_and3 ho
  have ho2 : (Nat.beq len 3 && gd_jmp pc o) = true := ho2
  obtain ⟨h3, hj⟩ := gd_andb ho2
  obtain rfl := Nat.eq_of_beq_eq_true h3
  obtain rfl := gd_go_inj hs
  exact ⟨rfl, lv_goto hx hb hd (gd_tgt_ok hj) (gd_wz (kk _ _ _ hH hL hS))⟩
theorem gd_s_ifCond_eq {o : Int} (F : gd_FF Z M p R s mI args meth c) (hH : gd_HR Z m H) (hL : gd_LR Z M loc ls) (hS : va_S (gz_A Z) s.heap H locs) (ho : gd_okE (gd_rc M) (pc, .ifCond .eq o, len, w, a, b, cc, z) = true) (hs : gd_step M (pc, .ifCond .eq o, len, w, a, b, cc, z) loc st m = gd_go d) (kk : gd_KK p l e R s mI args below meth c cells slots Q Z M m d) : d.1 = M ∧ W p l e R s mI args below meth c H locs cells slots Q (F0 mI pc ls (st.map (gd_cv Z))) := by
  obtain ⟨hx, hb, hml, hr, hown, hts, hlk, hnm, hE, hfr, hlo, htb1⟩ := F
  unfold gd_step at hs
  dsimp only at hs
  have ho : (decide (decode (gr_b (gd_rc M)) pc = .ok (.ifCond .eq o, len)) && _) = true := ho
  obtain ⟨hd, ho2⟩ := gd_and3 ho
  have ho2 : (Nat.beq len 3 && gd_jmp pc o) = true := ho2
  obtain ⟨h3, hj⟩ := gd_andb ho2
  obtain rfl := Nat.eq_of_beq_eq_true h3
  split at hs
  · next x r =>
    cases hb1 : gd_ifz .eq x with
    | true =>
      rw [hb1] at hs
      obtain rfl := gd_go_inj hs
      unfold gd_ifz at hb1
      have hb2 := of_decide_eq_true hb1
      have kz := gd_wz (kk _ _ _ hH hL hS)
      exact ⟨rfl, lv_if_eq hx hb hd (gd_tgt_ok hj) (fun _ => kz) (fun q => absurd hb2 q)⟩
    | false =>
      rw [hb1] at hs
      obtain rfl := gd_go_inj hs
      unfold gd_ifz at hb1
      have hb2 := of_decide_eq_false hb1
      have kz := gd_wz (kk _ _ _ hH hL hS)
      exact ⟨rfl, lv_if_eq hx hb hd (gd_tgt_ok hj) (fun q => absurd q hb2) (fun _ => kz)⟩
  · cases hs
theorem gd_s_ifCond_ne {o : Int} (F : gd_FF Z M p R s mI args meth c) (hH : gd_HR Z m H) (hL : gd_LR Z M loc ls) (hS : va_S (gz_A Z) s.heap H locs) (ho : gd_okE (gd_rc M) (pc, .ifCond .ne o, len, w, a, b, cc, z) = true) (hs : gd_step M (pc, .ifCond .ne o, len, w, a, b, cc, z) loc st m = gd_go d) (kk : gd_KK p l e R s mI args below meth c cells slots Q Z M m d) : d.1 = M ∧ W p l e R s mI args below meth c H locs cells slots Q (F0 mI pc ls (st.map (gd_cv Z))) := by
  obtain ⟨hx, hb, hml, hr, hown, hts, hlk, hnm, hE, hfr, hlo, htb1⟩ := F
  unfold gd_step at hs
  dsimp only at hs
  have ho : (decide (decode (gr_b (gd_rc M)) pc = .ok (.ifCond .ne o, len)) && _) = true := ho
  obtain ⟨hd, ho2⟩ := gd_and3 ho
  have ho2 : (Nat.beq len 3 && gd_jmp pc o) = true := ho2
  obtain ⟨h3, hj⟩ := gd_andb ho2
  obtain rfl := Nat.eq_of_beq_eq_true h3
  split at hs
  · next x r =>
    cases hb1 : gd_ifz .ne x with
    | true =>
      rw [hb1] at hs
      obtain rfl := gd_go_inj hs
      unfold gd_ifz at hb1
      have hb2 := of_decide_eq_true hb1
      have kz := gd_wz (kk _ _ _ hH hL hS)
      exact ⟨rfl, lv_if_ne hx hb hd (gd_tgt_ok hj) (fun _ => kz) (fun q => absurd q hb2)⟩
    | false =>
      rw [hb1] at hs
      obtain rfl := gd_go_inj hs
      unfold gd_ifz at hb1
      have hb2 := of_decide_eq_false hb1
      have kz := gd_wz (kk _ _ _ hH hL hS)
      exact ⟨rfl, lv_if_ne hx hb hd (gd_tgt_ok hj) (fun q => absurd q hb2) (fun _ => kz)⟩
  · cases hs
theorem gd_s_ifCond_lt {o : Int} (F : gd_FF Z M p R s mI args meth c) (hH : gd_HR Z m H) (hL : gd_LR Z M loc ls) (hS : va_S (gz_A Z) s.heap H locs) (ho : gd_okE (gd_rc M) (pc, .ifCond .lt o, len, w, a, b, cc, z) = true) (hs : gd_step M (pc, .ifCond .lt o, len, w, a, b, cc, z) loc st m = gd_go d) (kk : gd_KK p l e R s mI args below meth c cells slots Q Z M m d) : d.1 = M ∧ W p l e R s mI args below meth c H locs cells slots Q (F0 mI pc ls (st.map (gd_cv Z))) := by
  obtain ⟨hx, hb, hml, hr, hown, hts, hlk, hnm, hE, hfr, hlo, htb1⟩ := F
  unfold gd_step at hs
  dsimp only at hs
  have ho : (decide (decode (gr_b (gd_rc M)) pc = .ok (.ifCond .lt o, len)) && _) = true := ho
  obtain ⟨hd, ho2⟩ := gd_and3 ho
  have ho2 : (Nat.beq len 3 && gd_jmp pc o) = true := ho2
  obtain ⟨h3, hj⟩ := gd_andb ho2
  obtain rfl := Nat.eq_of_beq_eq_true h3
  split at hs
  · next x r =>
    cases hb1 : gd_ifz .lt x with
    | true =>
      rw [hb1] at hs
      obtain rfl := gd_go_inj hs
      unfold gd_ifz at hb1
      have hb2 := of_decide_eq_true hb1
      have kz := gd_wz (kk _ _ _ hH hL hS)
      exact ⟨rfl, lv_if_lt hx hb hd (gd_tgt_ok hj) (fun _ => kz) (fun q => absurd hb2 q)⟩
    | false =>
      rw [hb1] at hs
      obtain rfl := gd_go_inj hs
      unfold gd_ifz at hb1
      have hb2 := of_decide_eq_false hb1
      have kz := gd_wz (kk _ _ _ hH hL hS)
      exact ⟨rfl, lv_if_lt hx hb hd (gd_tgt_ok hj) (fun q => absurd q hb2) (fun _ => kz)⟩
  · cases hs
theorem gd_s_ifCond_ge {o : Int} (F : gd_FF Z M p R s mI args meth c) (hH : gd_HR Z m H) (hL : gd_LR Z M loc ls) (hS : va_S (gz_A Z) s.heap H locs) (ho : gd_okE (gd_rc M) (pc, .ifCond .ge o, len, w, a, b, cc, z) = true) (hs : gd_step M (pc, .ifCond .ge o, len, w, a, b, cc, z) loc st m = gd_go d) (kk : gd_KK p l e R s mI args below meth c cells slots Q Z M m d) : d.1 = M ∧ W p l e R s mI args below meth c H locs cells slots Q (F0 mI pc ls (st.map (gd_cv Z))) := by
  obtain ⟨hx, hb, hml, hr, hown, hts, hlk, hnm, hE, hfr, hlo, htb1⟩ := F
  unfold gd_step at hs
  dsimp only at hs
  have ho : (decide (decode (gr_b (gd_rc M)) pc = .ok (.ifCond .ge o, len)) && _) = true := ho
  obtain ⟨hd, ho2⟩ := gd_and3 ho
  have ho2 : (Nat.beq len 3 && gd_jmp pc o) = true := ho2
  obtain ⟨h3, hj⟩ := gd_andb ho2
  obtain rfl := Nat.eq_of_beq_eq_true h3
  split at hs
  · next x r =>
    cases hb1 : gd_ifz .ge x with
    | true =>
      rw [hb1] at hs
      obtain rfl := gd_go_inj hs
      unfold gd_ifz at hb1
      have hb2 := of_decide_eq_true hb1
      have kz := gd_wz (kk _ _ _ hH hL hS)
      exact ⟨rfl, lv_if_ge hx hb hd (gd_tgt_ok hj) (fun _ => kz) (fun q => absurd (Int32.not_lt.mp hb2) q)⟩
    | false =>
      rw [hb1] at hs
      obtain rfl := gd_go_inj hs
      unfold gd_ifz at hb1
      have hb2 := of_decide_eq_false hb1
      have kz := gd_wz (kk _ _ _ hH hL hS)
      exact ⟨rfl, lv_if_ge hx hb hd (gd_tgt_ok hj) (fun q => absurd q (fun q2 => hb2 (Int32.not_lt.mpr q2))) (fun _ => kz)⟩
  · cases hs
theorem gd_s_ifCond_gt {o : Int} (F : gd_FF Z M p R s mI args meth c) (hH : gd_HR Z m H) (hL : gd_LR Z M loc ls) (hS : va_S (gz_A Z) s.heap H locs) (ho : gd_okE (gd_rc M) (pc, .ifCond .gt o, len, w, a, b, cc, z) = true) (hs : gd_step M (pc, .ifCond .gt o, len, w, a, b, cc, z) loc st m = gd_go d) (kk : gd_KK p l e R s mI args below meth c cells slots Q Z M m d) : d.1 = M ∧ W p l e R s mI args below meth c H locs cells slots Q (F0 mI pc ls (st.map (gd_cv Z))) := by
  obtain ⟨hx, hb, hml, hr, hown, hts, hlk, hnm, hE, hfr, hlo, htb1⟩ := F
  unfold gd_step at hs
  dsimp only at hs
  have ho : (decide (decode (gr_b (gd_rc M)) pc = .ok (.ifCond .gt o, len)) && _) = true := ho
  obtain ⟨hd, ho2⟩ := gd_and3 ho
  have ho2 : (Nat.beq len 3 && gd_jmp pc o) = true := ho2
  obtain ⟨h3, hj⟩ := gd_andb ho2
  obtain rfl := Nat.eq_of_beq_eq_true h3
  split at hs
  · next x r =>
    cases hb1 : gd_ifz .gt x with
    | true =>
      rw [hb1] at hs
      obtain rfl := gd_go_inj hs
      unfold gd_ifz at hb1
      have hb2 := of_decide_eq_true hb1
      have kz := gd_wz (kk _ _ _ hH hL hS)
      exact ⟨rfl, lv_if_gt hx hb hd (gd_tgt_ok hj) (fun _ => kz) (fun q => absurd hb2 q)⟩
    | false =>
      rw [hb1] at hs
      obtain rfl := gd_go_inj hs
      unfold gd_ifz at hb1
      have hb2 := of_decide_eq_false hb1
      have kz := gd_wz (kk _ _ _ hH hL hS)
      exact ⟨rfl, lv_if_gt hx hb hd (gd_tgt_ok hj) (fun q => absurd q hb2) (fun _ => kz)⟩
  · cases hs
theorem gd_s_ifCond_le {o : Int} (F : gd_FF Z M p R s mI args meth c) (hH : gd_HR Z m H) (hL : gd_LR Z M loc ls) (hS : va_S (gz_A Z) s.heap H locs) (ho : gd_okE (gd_rc M) (pc, .ifCond .le o, len, w, a, b, cc, z) = true) (hs : gd_step M (pc, .ifCond .le o, len, w, a, b, cc, z) loc st m = gd_go d) (kk : gd_KK p l e R s mI args below meth c cells slots Q Z M m d) : d.1 = M ∧ W p l e R s mI args below meth c H locs cells slots Q (F0 mI pc ls (st.map (gd_cv Z))) := by
  obtain ⟨hx, hb, hml, hr, hown, hts, hlk, hnm, hE, hfr, hlo, htb1⟩ := F
  unfold gd_step at hs
  dsimp only at hs
  have ho : (decide (decode (gr_b (gd_rc M)) pc = .ok (.ifCond .le o, len)) && _) = true := ho
  obtain ⟨hd, ho2⟩ := gd_and3 ho
  have ho2 : (Nat.beq len 3 && gd_jmp pc o) = true := ho2
  obtain ⟨h3, hj⟩ := gd_andb ho2
  obtain rfl := Nat.eq_of_beq_eq_true h3
  split at hs
  · next x r =>
    cases hb1 : gd_ifz .le x with
    | true =>
      rw [hb1] at hs
      obtain rfl := gd_go_inj hs
      unfold gd_ifz at hb1
      have hb2 := of_decide_eq_true hb1
      have kz := gd_wz (kk _ _ _ hH hL hS)
      exact ⟨rfl, lv_if_le hx hb hd (gd_tgt_ok hj) (fun _ => kz) (fun q => absurd (Int32.not_lt.mp hb2) q)⟩
    | false =>
      rw [hb1] at hs
      obtain rfl := gd_go_inj hs
      unfold gd_ifz at hb1
      have hb2 := of_decide_eq_false hb1
      have kz := gd_wz (kk _ _ _ hH hL hS)
      exact ⟨rfl, lv_if_le hx hb hd (gd_tgt_ok hj) (fun q => absurd q (fun q2 => hb2 (Int32.not_lt.mpr q2))) (fun _ => kz)⟩
  · cases hs
theorem gd_s_if_icmp_eq {o : Int} (F : gd_FF Z M p R s mI args meth c) (hH : gd_HR Z m H) (hL : gd_LR Z M loc ls) (hS : va_S (gz_A Z) s.heap H locs) (ho : gd_okE (gd_rc M) (pc, .if_icmp .eq o, len, w, a, b, cc, z) = true) (hs : gd_step M (pc, .if_icmp .eq o, len, w, a, b, cc, z) loc st m = gd_go d) (kk : gd_KK p l e R s mI args below meth c cells slots Q Z M m d) : d.1 = M ∧ W p l e R s mI args below meth c H locs cells slots Q (F0 mI pc ls (st.map (gd_cv Z))) := by
  obtain ⟨hx, hb, hml, hr, hown, hts, hlk, hnm, hE, hfr, hlo, htb1⟩ := F
  unfold gd_step at hs
  dsimp only at hs
  have ho : (decide (decode (gr_b (gd_rc M)) pc = .ok (.if_icmp .eq o, len)) && _) = true := ho
  obtain ⟨hd, ho2⟩ := gd_and3 ho
  have ho2 : (Nat.beq len 3 && gd_jmp pc o) = true := ho2
  obtain ⟨h3, hj⟩ := gd_andb ho2
  obtain rfl := Nat.eq_of_beq_eq_true h3
  split at hs
  · next y x r =>
    cases hb1 : gd_ifc .eq x y with
    | true =>
      rw [hb1] at hs
      obtain rfl := gd_go_inj hs
      unfold gd_ifc at hb1
      have hb2 := of_decide_eq_true hb1
      have kz := gd_wz (kk _ _ _ hH hL hS)
      exact ⟨rfl, lv_icmp_eq hx hb hd (gd_tgt_ok hj) (fun _ => kz) (fun q => absurd hb2 q)⟩
    | false =>
      rw [hb1] at hs
      obtain rfl := gd_go_inj hs
      unfold gd_ifc at hb1
      have hb2 := of_decide_eq_false hb1
      have kz := gd_wz (kk _ _ _ hH hL hS)
      exact ⟨rfl, lv_icmp_eq hx hb hd (gd_tgt_ok hj) (fun q => absurd q hb2) (fun _ => kz)⟩
  · cases hs
theorem gd_s_if_icmp_ne {o : Int} (F : gd_FF Z M p R s mI args meth c) (hH : gd_HR Z m H) (hL : gd_LR Z M loc ls) (hS : va_S (gz_A Z) s.heap H locs) (ho : gd_okE (gd_rc M) (pc, .if_icmp .ne o, len, w, a, b, cc, z) = true) (hs : gd_step M (pc, .if_icmp .ne o, len, w, a, b, cc, z) loc st m = gd_go d) (kk : gd_KK p l e R s mI args below meth c cells slots Q Z M m d) : d.1 = M ∧ W p l e R s mI args below meth c H locs cells slots Q (F0 mI pc ls (st.map (gd_cv Z))) := by
  obtain ⟨hx, hb, hml, hr, hown, hts, hlk, hnm, hE, hfr, hlo, htb1⟩ := F
  unfold gd_step at hs
  dsimp only at hs
  have ho : (decide (decode (gr_b (gd_rc M)) pc = .ok (.if_icmp .ne o, len)) && _) = true := ho
  obtain ⟨hd, ho2⟩ := gd_and3 ho
  have ho2 : (Nat.beq len 3 && gd_jmp pc o) = true := ho2
  obtain ⟨h3, hj⟩ := gd_andb ho2
  obtain rfl := Nat.eq_of_beq_eq_true h3
  split at hs
  · next y x r =>
    cases hb1 : gd_ifc .ne x y with
    | true =>
      rw [hb1] at hs
      obtain rfl := gd_go_inj hs
      unfold gd_ifc at hb1
      have hb2 := of_decide_eq_true hb1
      have kz := gd_wz (kk _ _ _ hH hL hS)
      exact ⟨rfl, lv_icmp_ne hx hb hd (gd_tgt_ok hj) (fun _ => kz) (fun q => absurd q hb2)⟩
    | false =>
      rw [hb1] at hs
      obtain rfl := gd_go_inj hs
      unfold gd_ifc at hb1
      have hb2 := of_decide_eq_false hb1
      have kz := gd_wz (kk _ _ _ hH hL hS)
      exact ⟨rfl, lv_icmp_ne hx hb hd (gd_tgt_ok hj) (fun q => absurd q hb2) (fun _ => kz)⟩
  · cases hs
theorem gd_s_if_icmp_lt {o : Int} (F : gd_FF Z M p R s mI args meth c) (hH : gd_HR Z m H) (hL : gd_LR Z M loc ls) (hS : va_S (gz_A Z) s.heap H locs) (ho : gd_okE (gd_rc M) (pc, .if_icmp .lt o, len, w, a, b, cc, z) = true) (hs : gd_step M (pc, .if_icmp .lt o, len, w, a, b, cc, z) loc st m = gd_go d) (kk : gd_KK p l e R s mI args below meth c cells slots Q Z M m d) : d.1 = M ∧ W p l e R s mI args below meth c H locs cells slots Q (F0 mI pc ls (st.map (gd_cv Z))) := by
  obtain ⟨hx, hb, hml, hr, hown, hts, hlk, hnm, hE, hfr, hlo, htb1⟩ := F
  unfold gd_step at hs
  dsimp only at hs
  have ho : (decide (decode (gr_b (gd_rc M)) pc = .ok (.if_icmp .lt o, len)) && _) = true := ho
  obtain ⟨hd, ho2⟩ := gd_and3 ho
  have ho2 : (Nat.beq len 3 && gd_jmp pc o) = true := ho2
  obtain ⟨h3, hj⟩ := gd_andb ho2
  obtain rfl := Nat.eq_of_beq_eq_true h3
  split at hs
  · next y x r =>
    cases hb1 : gd_ifc .lt x y with
    | true =>
      rw [hb1] at hs
      obtain rfl := gd_go_inj hs
      unfold gd_ifc at hb1
      have hb2 := of_decide_eq_true hb1
      have kz := gd_wz (kk _ _ _ hH hL hS)
      exact ⟨rfl, lv_icmp_lt hx hb hd (gd_tgt_ok hj) (fun _ => kz) (fun q => absurd hb2 q)⟩
    | false =>
      rw [hb1] at hs
      obtain rfl := gd_go_inj hs
      unfold gd_ifc at hb1
      have hb2 := of_decide_eq_false hb1
      have kz := gd_wz (kk _ _ _ hH hL hS)
      exact ⟨rfl, lv_icmp_lt hx hb hd (gd_tgt_ok hj) (fun q => absurd q hb2) (fun _ => kz)⟩
  · cases hs
theorem gd_s_if_icmp_ge {o : Int} (F : gd_FF Z M p R s mI args meth c) (hH : gd_HR Z m H) (hL : gd_LR Z M loc ls) (hS : va_S (gz_A Z) s.heap H locs) (ho : gd_okE (gd_rc M) (pc, .if_icmp .ge o, len, w, a, b, cc, z) = true) (hs : gd_step M (pc, .if_icmp .ge o, len, w, a, b, cc, z) loc st m = gd_go d) (kk : gd_KK p l e R s mI args below meth c cells slots Q Z M m d) : d.1 = M ∧ W p l e R s mI args below meth c H locs cells slots Q (F0 mI pc ls (st.map (gd_cv Z))) := by
  obtain ⟨hx, hb, hml, hr, hown, hts, hlk, hnm, hE, hfr, hlo, htb1⟩ := F
  unfold gd_step at hs
  dsimp only at hs
  have ho : (decide (decode (gr_b (gd_rc M)) pc = .ok (.if_icmp .ge o, len)) && _) = true := ho
  obtain ⟨hd, ho2⟩ := gd_and3 ho
  have ho2 : (Nat.beq len 3 && gd_jmp pc o) = true := ho2
  obtain ⟨h3, hj⟩ := gd_andb ho2
  obtain rfl := Nat.eq_of_beq_eq_true h3
  split at hs
  · next y x r =>
    cases hb1 : gd_ifc .ge x y with
    | true =>
      rw [hb1] at hs
      obtain rfl := gd_go_inj hs
      unfold gd_ifc at hb1
      have hb2 := of_decide_eq_true hb1
      have kz := gd_wz (kk _ _ _ hH hL hS)
      exact ⟨rfl, lv_icmp_ge hx hb hd (gd_tgt_ok hj) (fun _ => kz) (fun q => absurd (Int32.not_lt.mp hb2) q)⟩
    | false =>
      rw [hb1] at hs
      obtain rfl := gd_go_inj hs
      unfold gd_ifc at hb1
      have hb2 := of_decide_eq_false hb1
      have kz := gd_wz (kk _ _ _ hH hL hS)
      exact ⟨rfl, lv_icmp_ge hx hb hd (gd_tgt_ok hj) (fun q => absurd q (fun q2 => hb2 (Int32.not_lt.mpr q2))) (fun _ => kz)⟩
  · cases hs
theorem gd_s_if_icmp_gt {o : Int} (F : gd_FF Z M p R s mI args meth c) (hH : gd_HR Z m H) (hL : gd_LR Z M loc ls) (hS : va_S (gz_A Z) s.heap H locs) (ho : gd_okE (gd_rc M) (pc, .if_icmp .gt o, len, w, a, b, cc, z) = true) (hs : gd_step M (pc, .if_icmp .gt o, len, w, a, b, cc, z) loc st m = gd_go d) (kk : gd_KK p l e R s mI args below meth c cells slots Q Z M m d) : d.1 = M ∧ W p l e R s mI args below meth c H locs cells slots Q (F0 mI pc ls (st.map (gd_cv Z))) := by
  obtain ⟨hx, hb, hml, hr, hown, hts, hlk, hnm, hE, hfr, hlo, htb1⟩ := F
  unfold gd_step at hs
  dsimp only at hs
  have ho : (decide (decode (gr_b (gd_rc M)) pc = .ok (.if_icmp .gt o, len)) && _) = true := ho
  obtain ⟨hd, ho2⟩ := gd_and3 ho
  have ho2 : (Nat.beq len 3 && gd_jmp pc o) = true := ho2
  obtain ⟨h3, hj⟩ := gd_andb ho2
  obtain rfl := Nat.eq_of_beq_eq_true h3
  split at hs
  · next y x r =>
    cases hb1 : gd_ifc .gt x y with
    | true =>
      rw [hb1] at hs
      obtain rfl := gd_go_inj hs
      unfold gd_ifc at hb1
      have hb2 := of_decide_eq_true hb1
      have kz := gd_wz (kk _ _ _ hH hL hS)
      exact ⟨rfl, lv_icmp_gt hx hb hd (gd_tgt_ok hj) (fun _ => kz) (fun q => absurd hb2 q)⟩
    | false =>
      rw [hb1] at hs
      obtain rfl := gd_go_inj hs
      unfold gd_ifc at hb1
      have hb2 := of_decide_eq_false hb1
      have kz := gd_wz (kk _ _ _ hH hL hS)
      exact ⟨rfl, lv_icmp_gt hx hb hd (gd_tgt_ok hj) (fun q => absurd q hb2) (fun _ => kz)⟩
  · cases hs
theorem gd_s_if_icmp_le {o : Int} (F : gd_FF Z M p R s mI args meth c) (hH : gd_HR Z m H) (hL : gd_LR Z M loc ls) (hS : va_S (gz_A Z) s.heap H locs) (ho : gd_okE (gd_rc M) (pc, .if_icmp .le o, len, w, a, b, cc, z) = true) (hs : gd_step M (pc, .if_icmp .le o, len, w, a, b, cc, z) loc st m = gd_go d) (kk : gd_KK p l e R s mI args below meth c cells slots Q Z M m d) : d.1 = M ∧ W p l e R s mI args below meth c H locs cells slots Q (F0 mI pc ls (st.map (gd_cv Z))) := by
  obtain ⟨hx, hb, hml, hr, hown, hts, hlk, hnm, hE, hfr, hlo, htb1⟩ := F
  unfold gd_step at hs
  dsimp only at hs
  have ho : (decide (decode (gr_b (gd_rc M)) pc = .ok (.if_icmp .le o, len)) && _) = true := ho
  obtain ⟨hd, ho2⟩ := gd_and3 ho
  have ho2 : (Nat.beq len 3 && gd_jmp pc o) = true := ho2
  obtain ⟨h3, hj⟩ := gd_andb ho2
  obtain rfl := Nat.eq_of_beq_eq_true h3
  split at hs
  · next y x r =>
    cases hb1 : gd_ifc .le x y with
    | true =>
      rw [hb1] at hs
      obtain rfl := gd_go_inj hs
      unfold gd_ifc at hb1
      have hb2 := of_decide_eq_true hb1
      have kz := gd_wz (kk _ _ _ hH hL hS)
      exact ⟨rfl, lv_icmp_le hx hb hd (gd_tgt_ok hj) (fun _ => kz) (fun q => absurd (Int32.not_lt.mp hb2) q)⟩
    | false =>
      rw [hb1] at hs
      obtain rfl := gd_go_inj hs
      unfold gd_ifc at hb1
      have hb2 := of_decide_eq_false hb1
      have kz := gd_wz (kk _ _ _ hH hL hS)
      exact ⟨rfl, lv_icmp_le hx hb hd (gd_tgt_ok hj) (fun q => absurd q (fun q2 => hb2 (Int32.not_lt.mpr q2))) (fun _ => kz)⟩
  · cases hs
theorem gd_s_ifnull {o : Int} (F : gd_FF Z M p R s mI args meth c) (hH : gd_HR Z m H) (hL : gd_LR Z M loc ls) (hS : va_S (gz_A Z) s.heap H locs) (ho : gd_okE (gd_rc M) (pc, .ifnull o, len, w, a, b, cc, z) = true) (hs : gd_step M (pc, .ifnull o, len, w, a, b, cc, z) loc st m = gd_go d) (kk : gd_KK p l e R s mI args below meth c cells slots Q Z M m d) : d.1 = M ∧ W p l e R s mI args below meth c H locs cells slots Q (F0 mI pc ls (st.map (gd_cv Z))) := by
  obtain ⟨hx, hb, hml, hr, hown, hts, hlk, hnm, hE, hfr, hlo, htb1⟩ := F
  unfold gd_step at hs
  dsimp only at hs
  have ho : (decide (decode (gr_b (gd_rc M)) pc = .ok (.ifnull o, len)) && _) = true := ho
  obtain ⟨hd, ho2⟩ := gd_and3 ho
  have ho2 : (Nat.beq len 3 && gd_jmp pc o) = true := ho2
  obtain ⟨h3, hj⟩ := gd_andb ho2
  obtain rfl := Nat.eq_of_beq_eq_true h3
  split at hs
  · next x r =>
    cases hb1 : Nat.beq x 0 with
    | true =>
      rw [hb1] at hs
      obtain rfl := gd_go_inj hs
      have hb2 := Nat.eq_of_beq_eq_true hb1
      subst hb2
      exact ⟨rfl, lv_ifnullN hx hb hd (gd_tgt_ok hj) (gd_wz (kk _ _ _ hH hL hS))⟩
    | false =>
      rw [hb1] at hs
      cases hb3 : Nat.ble 8 x with
      | false => rw [hb3] at hs; cases hs
      | true =>
        rw [hb3] at hs
        obtain rfl := gd_go_inj hs
        have h8 : gd_adr Z x = .ref (gz_bs Z + (x - 8)) := gd_adr_8 (Nat.le_of_ble_eq_true hb3)
        refine ⟨rfl, ?_⟩
        rw [List.map_cons, show gd_cv Z (.ref x) = gd_adr Z x from rfl, h8]
        exact lv_ifnull hx hb hd (gd_wz (kk _ _ _ hH hL hS))
  · cases hs
theorem gd_s_ifnonnull {o : Int} (F : gd_FF Z M p R s mI args meth c) (hH : gd_HR Z m H) (hL : gd_LR Z M loc ls) (hS : va_S (gz_A Z) s.heap H locs) (ho : gd_okE (gd_rc M) (pc, .ifnonnull o, len, w, a, b, cc, z) = true) (hs : gd_step M (pc, .ifnonnull o, len, w, a, b, cc, z) loc st m = gd_go d) (kk : gd_KK p l e R s mI args below meth c cells slots Q Z M m d) : d.1 = M ∧ W p l e R s mI args below meth c H locs cells slots Q (F0 mI pc ls (st.map (gd_cv Z))) := by
  obtain ⟨hx, hb, hml, hr, hown, hts, hlk, hnm, hE, hfr, hlo, htb1⟩ := F
  unfold gd_step at hs
  dsimp only at hs
  have ho : (decide (decode (gr_b (gd_rc M)) pc = .ok (.ifnonnull o, len)) && _) = true := ho
  obtain ⟨hd, ho2⟩ := gd_and3 ho
  have ho2 : (Nat.beq len 3 && gd_jmp pc o) = true := ho2
  obtain ⟨h3, hj⟩ := gd_andb ho2
  obtain rfl := Nat.eq_of_beq_eq_true h3
  split at hs
  · next x r =>
    cases hb1 : Nat.beq x 0 with
    | true =>
      rw [hb1] at hs
      obtain rfl := gd_go_inj hs
      have hb2 := Nat.eq_of_beq_eq_true hb1
      subst hb2
      exact ⟨rfl, lv_ifnonnullN hx hb hd (gd_wz (kk _ _ _ hH hL hS))⟩
    | false =>
      rw [hb1] at hs
      cases hb3 : Nat.ble 8 x with
      | false => rw [hb3] at hs; cases hs
      | true =>
        rw [hb3] at hs
        obtain rfl := gd_go_inj hs
        have h8 : gd_adr Z x = .ref (gz_bs Z + (x - 8)) := gd_adr_8 (Nat.le_of_ble_eq_true hb3)
        refine ⟨rfl, ?_⟩
        rw [List.map_cons, show gd_cv Z (.ref x) = gd_adr Z x from rfl, h8]
        exact lv_ifnonnull hx hb hd (gd_tgt_ok hj) (gd_wz (kk _ _ _ hH hL hS))
  · cases hs
end GDS
