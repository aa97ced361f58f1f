/-! ===== facts of each method, decided ===== -/
def gd_rmC (M N : Nat) : Bool := Nat.ble (gr_fr (gd_rc N) + 1) (gr_fr (gd_rc M)) && Nat.ble (8 + (gr_ml (gd_rc N) + 11) + gr_lo (gd_rc N)) (gr_lo (gd_rc M))
theorem gd_rmk {M N : Nat} {args rest : List Value} {lng : List Nat} {ml : Nat} (h : gd_rmC M N = true) (hl : gr_lng (gd_rc N) = lng) (hm : gr_ml (gd_rc N) = ml) (h1 : Nat.ble (gd_pcs rest) 8 = true) (h2 : gd_argOk lng 0 args = true) (h3 : Nat.ble (gd_flat args).length ml = true) : gd_room M N args rest = true := by
  subst hl
  subst hm
  unfold gd_rmC at h
  unfold gd_room
  rw [h, h1, h2, h3]
  rfl
theorem gd_hnd_n {M pc : Nat} (h : Nat.beq M gd_mCode = false) : gd_hnd M pc = false := by
  unfold gd_hnd
  rw [h]
  rfl
theorem gk_nc0 : Nat.beq 0 gd_mCode = false := by decide +kernel
theorem gk_ml0 : gr_ml (gd_rc 0) = 1 := by decide +kernel
theorem gk_ln0 : gr_lng (gd_rc 0) = [] := by decide +kernel
theorem gk_rk0 : gd_rk (gr_ret (gd_rc 0)) = 5 := by decide +kernel
theorem gk_cl0 : gr_cls (gd_rc 0) = 11 := by decide +kernel
theorem gk_t11_0 : Nat.beq (gr_cls (gd_rc 0)) 11 = true := by decide +kernel
theorem gk_n10_0 : Nat.beq (gr_cls (gd_rc 0)) 10 = false := by decide +kernel
theorem gk_n12_0 : Nat.beq (gr_cls (gd_rc 0)) 12 = false := by decide +kernel
theorem gk_t0 : (Nat.beq (gr_cls (gd_rc 0)) 11 || Nat.beq (gr_cls (gd_rc 0)) 12) = true := by decide +kernel
theorem gk_b12_0 : Nat.beq (gr_bk (gd_rc 0)) 12 = false := by decide +kernel
theorem gk_bk0 : (bif Nat.beq (gr_bk (gd_rc 0)) 12 then 12 else 11) = 11 := by decide +kernel
theorem gk_nc1 : Nat.beq 1 gd_mCode = false := by decide +kernel
theorem gk_ml1 : gr_ml (gd_rc 1) = 1 := by decide +kernel
theorem gk_ln1 : gr_lng (gd_rc 1) = [] := by decide +kernel
theorem gk_rk1 : gd_rk (gr_ret (gd_rc 1)) = 1 := by decide +kernel
theorem gk_cl1 : gr_cls (gd_rc 1) = 11 := by decide +kernel
theorem gk_t11_1 : Nat.beq (gr_cls (gd_rc 1)) 11 = true := by decide +kernel
theorem gk_n10_1 : Nat.beq (gr_cls (gd_rc 1)) 10 = false := by decide +kernel
theorem gk_n12_1 : Nat.beq (gr_cls (gd_rc 1)) 12 = false := by decide +kernel
theorem gk_t1 : (Nat.beq (gr_cls (gd_rc 1)) 11 || Nat.beq (gr_cls (gd_rc 1)) 12) = true := by decide +kernel
theorem gk_b12_1 : Nat.beq (gr_bk (gd_rc 1)) 12 = false := by decide +kernel
theorem gk_bk1 : (bif Nat.beq (gr_bk (gd_rc 1)) 12 then 12 else 11) = 11 := by decide +kernel
theorem gk_nc2 : Nat.beq 2 gd_mCode = false := by decide +kernel
theorem gk_ml2 : gr_ml (gd_rc 2) = 1 := by decide +kernel
theorem gk_ln2 : gr_lng (gd_rc 2) = [] := by decide +kernel
theorem gk_rk2 : gd_rk (gr_ret (gd_rc 2)) = 4 := by decide +kernel
theorem gk_cl2 : gr_cls (gd_rc 2) = 11 := by decide +kernel
theorem gk_t11_2 : Nat.beq (gr_cls (gd_rc 2)) 11 = true := by decide +kernel
theorem gk_n10_2 : Nat.beq (gr_cls (gd_rc 2)) 10 = false := by decide +kernel
theorem gk_n12_2 : Nat.beq (gr_cls (gd_rc 2)) 12 = false := by decide +kernel
theorem gk_t2 : (Nat.beq (gr_cls (gd_rc 2)) 11 || Nat.beq (gr_cls (gd_rc 2)) 12) = true := by decide +kernel
theorem gk_b12_2 : Nat.beq (gr_bk (gd_rc 2)) 12 = false := by decide +kernel
theorem gk_bk2 : (bif Nat.beq (gr_bk (gd_rc 2)) 12 then 12 else 11) = 11 := by decide +kernel
theorem gk_nc3 : Nat.beq 3 gd_mCode = false := by decide +kernel
theorem gk_ml3 : gr_ml (gd_rc 3) = 3 := by decide +kernel
theorem gk_ln3 : gr_lng (gd_rc 3) = [] := by decide +kernel
theorem gk_rk3 : gd_rk (gr_ret (gd_rc 3)) = 1 := by decide +kernel
theorem gk_cl3 : gr_cls (gd_rc 3) = 13 := by decide +kernel
theorem gk_n11_3 : Nat.beq (gr_cls (gd_rc 3)) 11 = false := by decide +kernel
theorem gk_n10_3 : Nat.beq (gr_cls (gd_rc 3)) 10 = false := by decide +kernel
theorem gk_n12_3 : Nat.beq (gr_cls (gd_rc 3)) 12 = false := by decide +kernel
theorem gk_nt3 : (Nat.beq (gr_cls (gd_rc 3)) 11 || Nat.beq (gr_cls (gd_rc 3)) 12) = false := by decide +kernel
theorem gk_b12_3 : Nat.beq (gr_bk (gd_rc 3)) 12 = false := by decide +kernel
theorem gk_bk3 : (bif Nat.beq (gr_bk (gd_rc 3)) 12 then 12 else 11) = 11 := by decide +kernel
theorem gk_nc4 : Nat.beq 4 gd_mCode = false := by decide +kernel
theorem gk_ml4 : gr_ml (gd_rc 4) = 2 := by decide +kernel
theorem gk_ln4 : gr_lng (gd_rc 4) = [] := by decide +kernel
theorem gk_rk4 : gd_rk (gr_ret (gd_rc 4)) = 0 := by decide +kernel
theorem gk_cl4 : gr_cls (gd_rc 4) = 11 := by decide +kernel
theorem gk_t11_4 : Nat.beq (gr_cls (gd_rc 4)) 11 = true := by decide +kernel
theorem gk_n10_4 : Nat.beq (gr_cls (gd_rc 4)) 10 = false := by decide +kernel
theorem gk_n12_4 : Nat.beq (gr_cls (gd_rc 4)) 12 = false := by decide +kernel
theorem gk_t4 : (Nat.beq (gr_cls (gd_rc 4)) 11 || Nat.beq (gr_cls (gd_rc 4)) 12) = true := by decide +kernel
theorem gk_b12_4 : Nat.beq (gr_bk (gd_rc 4)) 12 = false := by decide +kernel
theorem gk_bk4 : (bif Nat.beq (gr_bk (gd_rc 4)) 12 then 12 else 11) = 11 := by decide +kernel
theorem gk_nc5 : Nat.beq 5 gd_mCode = false := by decide +kernel
theorem gk_ml5 : gr_ml (gd_rc 5) = 2 := by decide +kernel
theorem gk_ln5 : gr_lng (gd_rc 5) = [] := by decide +kernel
theorem gk_rk5 : gd_rk (gr_ret (gd_rc 5)) = 6 := by decide +kernel
theorem gk_cl5 : gr_cls (gd_rc 5) = 12 := by decide +kernel
theorem gk_n11_5 : Nat.beq (gr_cls (gd_rc 5)) 11 = false := by decide +kernel
theorem gk_n10_5 : Nat.beq (gr_cls (gd_rc 5)) 10 = false := by decide +kernel
theorem gk_12t5 : Nat.beq (gr_cls (gd_rc 5)) 12 = true := by decide +kernel
theorem gk_t5 : (Nat.beq (gr_cls (gd_rc 5)) 11 || Nat.beq (gr_cls (gd_rc 5)) 12) = true := by decide +kernel
theorem gk_b12_5 : Nat.beq (gr_bk (gd_rc 5)) 12 = false := by decide +kernel
theorem gk_bk5 : (bif Nat.beq (gr_bk (gd_rc 5)) 12 then 12 else 11) = 11 := by decide +kernel
theorem gk_nc6 : Nat.beq 6 gd_mCode = false := by decide +kernel
theorem gk_ml6 : gr_ml (gd_rc 6) = 2 := by decide +kernel
theorem gk_ln6 : gr_lng (gd_rc 6) = [] := by decide +kernel
theorem gk_rk6 : gd_rk (gr_ret (gd_rc 6)) = 6 := by decide +kernel
theorem gk_cl6 : gr_cls (gd_rc 6) = 11 := by decide +kernel
theorem gk_t11_6 : Nat.beq (gr_cls (gd_rc 6)) 11 = true := by decide +kernel
theorem gk_n10_6 : Nat.beq (gr_cls (gd_rc 6)) 10 = false := by decide +kernel
theorem gk_n12_6 : Nat.beq (gr_cls (gd_rc 6)) 12 = false := by decide +kernel
theorem gk_t6 : (Nat.beq (gr_cls (gd_rc 6)) 11 || Nat.beq (gr_cls (gd_rc 6)) 12) = true := by decide +kernel
theorem gk_b12_6 : Nat.beq (gr_bk (gd_rc 6)) 12 = false := by decide +kernel
theorem gk_bk6 : (bif Nat.beq (gr_bk (gd_rc 6)) 12 then 12 else 11) = 11 := by decide +kernel
theorem gk_nc7 : Nat.beq 7 gd_mCode = false := by decide +kernel
theorem gk_ml7 : gr_ml (gd_rc 7) = 3 := by decide +kernel
theorem gk_ln7 : gr_lng (gd_rc 7) = [] := by decide +kernel
theorem gk_rk7 : gd_rk (gr_ret (gd_rc 7)) = 0 := by decide +kernel
theorem gk_cl7 : gr_cls (gd_rc 7) = 5 := by decide +kernel
theorem gk_n11_7 : Nat.beq (gr_cls (gd_rc 7)) 11 = false := by decide +kernel
theorem gk_n10_7 : Nat.beq (gr_cls (gd_rc 7)) 10 = false := by decide +kernel
theorem gk_n12_7 : Nat.beq (gr_cls (gd_rc 7)) 12 = false := by decide +kernel
theorem gk_nt7 : (Nat.beq (gr_cls (gd_rc 7)) 11 || Nat.beq (gr_cls (gd_rc 7)) 12) = false := by decide +kernel
theorem gk_b12_7 : Nat.beq (gr_bk (gd_rc 7)) 12 = true := by decide +kernel
theorem gk_bk7 : (bif Nat.beq (gr_bk (gd_rc 7)) 12 then 12 else 11) = 12 := by decide +kernel
theorem gk_oi7 : (Nat.ble (gd_pcs []) 8 && Nat.ble 1 (gr_fr (gd_rc 7)) && Nat.ble 20 (gr_lo (gd_rc 7)) && Nat.beq 0 0) = true := by decide +kernel
theorem gk_nc8 : Nat.beq 8 gd_mCode = false := by decide +kernel
theorem gk_ml8 : gr_ml (gd_rc 8) = 1 := by decide +kernel
theorem gk_ln8 : gr_lng (gd_rc 8) = [] := by decide +kernel
theorem gk_rk8 : gd_rk (gr_ret (gd_rc 8)) = 0 := by decide +kernel
theorem gk_cl8 : gr_cls (gd_rc 8) = 3 := by decide +kernel
theorem gk_n11_8 : Nat.beq (gr_cls (gd_rc 8)) 11 = false := by decide +kernel
theorem gk_n10_8 : Nat.beq (gr_cls (gd_rc 8)) 10 = false := by decide +kernel
theorem gk_n12_8 : Nat.beq (gr_cls (gd_rc 8)) 12 = false := by decide +kernel
theorem gk_nt8 : (Nat.beq (gr_cls (gd_rc 8)) 11 || Nat.beq (gr_cls (gd_rc 8)) 12) = false := by decide +kernel
theorem gk_b12_8 : Nat.beq (gr_bk (gd_rc 8)) 12 = false := by decide +kernel
theorem gk_bk8 : (bif Nat.beq (gr_bk (gd_rc 8)) 12 then 12 else 11) = 11 := by decide +kernel
theorem gk_oi8 : (Nat.ble (gd_pcs []) 8 && Nat.ble 1 (gr_fr (gd_rc 8)) && Nat.ble 20 (gr_lo (gd_rc 8)) && Nat.beq 0 0) = true := by decide +kernel
theorem gk_nc9 : Nat.beq 9 gd_mCode = false := by decide +kernel
theorem gk_ml9 : gr_ml (gd_rc 9) = 1 := by decide +kernel
theorem gk_ln9 : gr_lng (gd_rc 9) = [] := by decide +kernel
theorem gk_rk9 : gd_rk (gr_ret (gd_rc 9)) = 0 := by decide +kernel
theorem gk_cl9 : gr_cls (gd_rc 9) = 0 := by decide +kernel
theorem gk_n11_9 : Nat.beq (gr_cls (gd_rc 9)) 11 = false := by decide +kernel
theorem gk_n10_9 : Nat.beq (gr_cls (gd_rc 9)) 10 = false := by decide +kernel
theorem gk_n12_9 : Nat.beq (gr_cls (gd_rc 9)) 12 = false := by decide +kernel
theorem gk_nt9 : (Nat.beq (gr_cls (gd_rc 9)) 11 || Nat.beq (gr_cls (gd_rc 9)) 12) = false := by decide +kernel
theorem gk_b12_9 : Nat.beq (gr_bk (gd_rc 9)) 12 = false := by decide +kernel
theorem gk_bk9 : (bif Nat.beq (gr_bk (gd_rc 9)) 12 then 12 else 11) = 11 := by decide +kernel
theorem gk_oi9 : (Nat.ble (gd_pcs []) 8 && Nat.ble 1 (gr_fr (gd_rc 9)) && Nat.ble 20 (gr_lo (gd_rc 9)) && Nat.beq 0 0) = true := by decide +kernel
theorem gk_nc10 : Nat.beq 10 gd_mCode = false := by decide +kernel
theorem gk_ml10 : gr_ml (gd_rc 10) = 1 := by decide +kernel
theorem gk_ln10 : gr_lng (gd_rc 10) = [] := by decide +kernel
theorem gk_rk10 : gd_rk (gr_ret (gd_rc 10)) = 0 := by decide +kernel
theorem gk_cl10 : gr_cls (gd_rc 10) = 2 := by decide +kernel
theorem gk_n11_10 : Nat.beq (gr_cls (gd_rc 10)) 11 = false := by decide +kernel
theorem gk_n10_10 : Nat.beq (gr_cls (gd_rc 10)) 10 = false := by decide +kernel
theorem gk_n12_10 : Nat.beq (gr_cls (gd_rc 10)) 12 = false := by decide +kernel
theorem gk_nt10 : (Nat.beq (gr_cls (gd_rc 10)) 11 || Nat.beq (gr_cls (gd_rc 10)) 12) = false := by decide +kernel
theorem gk_b12_10 : Nat.beq (gr_bk (gd_rc 10)) 12 = false := by decide +kernel
theorem gk_bk10 : (bif Nat.beq (gr_bk (gd_rc 10)) 12 then 12 else 11) = 11 := by decide +kernel
theorem gk_oi10 : (Nat.ble (gd_pcs []) 8 && Nat.ble 1 (gr_fr (gd_rc 10)) && Nat.ble 20 (gr_lo (gd_rc 10)) && Nat.beq 0 0) = true := by decide +kernel
theorem gk_nc11 : Nat.beq 11 gd_mCode = false := by decide +kernel
theorem gk_ml11 : gr_ml (gd_rc 11) = 2 := by decide +kernel
theorem gk_ln11 : gr_lng (gd_rc 11) = [] := by decide +kernel
theorem gk_rk11 : gd_rk (gr_ret (gd_rc 11)) = 0 := by decide +kernel
theorem gk_cl11 : gr_cls (gd_rc 11) = 1 := by decide +kernel
theorem gk_n11_11 : Nat.beq (gr_cls (gd_rc 11)) 11 = false := by decide +kernel
theorem gk_n10_11 : Nat.beq (gr_cls (gd_rc 11)) 10 = false := by decide +kernel
theorem gk_n12_11 : Nat.beq (gr_cls (gd_rc 11)) 12 = false := by decide +kernel
theorem gk_nt11 : (Nat.beq (gr_cls (gd_rc 11)) 11 || Nat.beq (gr_cls (gd_rc 11)) 12) = false := by decide +kernel
theorem gk_b12_11 : Nat.beq (gr_bk (gd_rc 11)) 12 = false := by decide +kernel
theorem gk_bk11 : (bif Nat.beq (gr_bk (gd_rc 11)) 12 then 12 else 11) = 11 := by decide +kernel
theorem gk_nc12 : Nat.beq 12 gd_mCode = false := by decide +kernel
theorem gk_ml12 : gr_ml (gd_rc 12) = 1 := by decide +kernel
theorem gk_ln12 : gr_lng (gd_rc 12) = [] := by decide +kernel
theorem gk_rk12 : gd_rk (gr_ret (gd_rc 12)) = 0 := by decide +kernel
theorem gk_cl12 : gr_cls (gd_rc 12) = 1 := by decide +kernel
theorem gk_n11_12 : Nat.beq (gr_cls (gd_rc 12)) 11 = false := by decide +kernel
theorem gk_n10_12 : Nat.beq (gr_cls (gd_rc 12)) 10 = false := by decide +kernel
theorem gk_n12_12 : Nat.beq (gr_cls (gd_rc 12)) 12 = false := by decide +kernel
theorem gk_nt12 : (Nat.beq (gr_cls (gd_rc 12)) 11 || Nat.beq (gr_cls (gd_rc 12)) 12) = false := by decide +kernel
theorem gk_b12_12 : Nat.beq (gr_bk (gd_rc 12)) 12 = false := by decide +kernel
theorem gk_bk12 : (bif Nat.beq (gr_bk (gd_rc 12)) 12 then 12 else 11) = 11 := by decide +kernel
theorem gk_oi12 : (Nat.ble (gd_pcs []) 8 && Nat.ble 1 (gr_fr (gd_rc 12)) && Nat.ble 20 (gr_lo (gd_rc 12)) && Nat.beq 0 0) = true := by decide +kernel
theorem gk_nc13 : Nat.beq 13 gd_mCode = false := by decide +kernel
theorem gk_ml13 : gr_ml (gd_rc 13) = 1 := by decide +kernel
theorem gk_ln13 : gr_lng (gd_rc 13) = [] := by decide +kernel
theorem gk_rk13 : gd_rk (gr_ret (gd_rc 13)) = 0 := by decide +kernel
theorem gk_cl13 : gr_cls (gd_rc 13) = 4 := by decide +kernel
theorem gk_n11_13 : Nat.beq (gr_cls (gd_rc 13)) 11 = false := by decide +kernel
theorem gk_n10_13 : Nat.beq (gr_cls (gd_rc 13)) 10 = false := by decide +kernel
theorem gk_n12_13 : Nat.beq (gr_cls (gd_rc 13)) 12 = false := by decide +kernel
theorem gk_nt13 : (Nat.beq (gr_cls (gd_rc 13)) 11 || Nat.beq (gr_cls (gd_rc 13)) 12) = false := by decide +kernel
theorem gk_b12_13 : Nat.beq (gr_bk (gd_rc 13)) 12 = false := by decide +kernel
theorem gk_bk13 : (bif Nat.beq (gr_bk (gd_rc 13)) 12 then 12 else 11) = 11 := by decide +kernel
theorem gk_oi13 : (Nat.ble (gd_pcs []) 8 && Nat.ble 1 (gr_fr (gd_rc 13)) && Nat.ble 20 (gr_lo (gd_rc 13)) && Nat.beq 0 0) = true := by decide +kernel
theorem gk_nc14 : Nat.beq 14 gd_mCode = false := by decide +kernel
theorem gk_ml14 : gr_ml (gd_rc 14) = 2 := by decide +kernel
theorem gk_ln14 : gr_lng (gd_rc 14) = [] := by decide +kernel
theorem gk_rk14 : gd_rk (gr_ret (gd_rc 14)) = 0 := by decide +kernel
theorem gk_cl14 : gr_cls (gd_rc 14) = 6 := by decide +kernel
theorem gk_n11_14 : Nat.beq (gr_cls (gd_rc 14)) 11 = false := by decide +kernel
theorem gk_n10_14 : Nat.beq (gr_cls (gd_rc 14)) 10 = false := by decide +kernel
theorem gk_n12_14 : Nat.beq (gr_cls (gd_rc 14)) 12 = false := by decide +kernel
theorem gk_nt14 : (Nat.beq (gr_cls (gd_rc 14)) 11 || Nat.beq (gr_cls (gd_rc 14)) 12) = false := by decide +kernel
theorem gk_b12_14 : Nat.beq (gr_bk (gd_rc 14)) 12 = false := by decide +kernel
theorem gk_bk14 : (bif Nat.beq (gr_bk (gd_rc 14)) 12 then 12 else 11) = 11 := by decide +kernel
theorem gk_oi14 : (Nat.ble (gd_pcs []) 8 && Nat.ble 1 (gr_fr (gd_rc 14)) && Nat.ble 20 (gr_lo (gd_rc 14)) && Nat.beq 0 0) = true := by decide +kernel
theorem gk_nc15 : Nat.beq 15 gd_mCode = false := by decide +kernel
theorem gk_ml15 : gr_ml (gd_rc 15) = 5 := by decide +kernel
theorem gk_ln15 : gr_lng (gd_rc 15) = [] := by decide +kernel
theorem gk_rk15 : gd_rk (gr_ret (gd_rc 15)) = 0 := by decide +kernel
theorem gk_cl15 : gr_cls (gd_rc 15) = 18 := by decide +kernel
theorem gk_n11_15 : Nat.beq (gr_cls (gd_rc 15)) 11 = false := by decide +kernel
theorem gk_n10_15 : Nat.beq (gr_cls (gd_rc 15)) 10 = false := by decide +kernel
theorem gk_n12_15 : Nat.beq (gr_cls (gd_rc 15)) 12 = false := by decide +kernel
theorem gk_nt15 : (Nat.beq (gr_cls (gd_rc 15)) 11 || Nat.beq (gr_cls (gd_rc 15)) 12) = false := by decide +kernel
theorem gk_b12_15 : Nat.beq (gr_bk (gd_rc 15)) 12 = false := by decide +kernel
theorem gk_bk15 : (bif Nat.beq (gr_bk (gd_rc 15)) 12 then 12 else 11) = 11 := by decide +kernel
theorem gk_oi15 : (Nat.ble (gd_pcs []) 8 && Nat.ble 1 (gr_fr (gd_rc 15)) && Nat.ble 20 (gr_lo (gd_rc 15)) && Nat.beq 0 0) = true := by decide +kernel
theorem gk_nc16 : Nat.beq 16 gd_mCode = false := by decide +kernel
theorem gk_ml16 : gr_ml (gd_rc 16) = 5 := by decide +kernel
theorem gk_ln16 : gr_lng (gd_rc 16) = [] := by decide +kernel
theorem gk_rk16 : gd_rk (gr_ret (gd_rc 16)) = 0 := by decide +kernel
theorem gk_cl16 : gr_cls (gd_rc 16) = 17 := by decide +kernel
theorem gk_n11_16 : Nat.beq (gr_cls (gd_rc 16)) 11 = false := by decide +kernel
theorem gk_n10_16 : Nat.beq (gr_cls (gd_rc 16)) 10 = false := by decide +kernel
theorem gk_n12_16 : Nat.beq (gr_cls (gd_rc 16)) 12 = false := by decide +kernel
theorem gk_nt16 : (Nat.beq (gr_cls (gd_rc 16)) 11 || Nat.beq (gr_cls (gd_rc 16)) 12) = false := by decide +kernel
theorem gk_b12_16 : Nat.beq (gr_bk (gd_rc 16)) 12 = false := by decide +kernel
theorem gk_bk16 : (bif Nat.beq (gr_bk (gd_rc 16)) 12 then 12 else 11) = 11 := by decide +kernel
-- 16
theorem gk_nc17 : Nat.beq 17 gd_mCode = false := by decide +kernel
theorem gk_ml17 : gr_ml (gd_rc 17) = 5 := by decide +kernel
theorem gk_ln17 : gr_lng (gd_rc 17) = [] := by decide +kernel
theorem gk_rk17 : gd_rk (gr_ret (gd_rc 17)) = 0 := by decide +kernel
theorem gk_cl17 : gr_cls (gd_rc 17) = 16 := by decide +kernel
theorem gk_n11_17 : Nat.beq (gr_cls (gd_rc 17)) 11 = false := by decide +kernel
theorem gk_n10_17 : Nat.beq (gr_cls (gd_rc 17)) 10 = false := by decide +kernel
theorem gk_n12_17 : Nat.beq (gr_cls (gd_rc 17)) 12 = false := by decide +kernel
theorem gk_nt17 : (Nat.beq (gr_cls (gd_rc 17)) 11 || Nat.beq (gr_cls (gd_rc 17)) 12) = false := by decide +kernel
theorem gk_b12_17 : Nat.beq (gr_bk (gd_rc 17)) 12 = false := by decide +kernel
theorem gk_bk17 : (bif Nat.beq (gr_bk (gd_rc 17)) 12 then 12 else 11) = 11 := by decide +kernel
-- 17
theorem gk_nc18 : Nat.beq 18 gd_mCode = false := by decide +kernel
theorem gk_ml18 : gr_ml (gd_rc 18) = 1 := by decide +kernel
theorem gk_ln18 : gr_lng (gd_rc 18) = [] := by decide +kernel
theorem gk_rk18 : gd_rk (gr_ret (gd_rc 18)) = 0 := by decide +kernel
theorem gk_cl18 : gr_cls (gd_rc 18) = 8 := by decide +kernel
theorem gk_n11_18 : Nat.beq (gr_cls (gd_rc 18)) 11 = false := by decide +kernel
theorem gk_n10_18 : Nat.beq (gr_cls (gd_rc 18)) 10 = false := by decide +kernel
theorem gk_n12_18 : Nat.beq (gr_cls (gd_rc 18)) 12 = false := by decide +kernel
theorem gk_nt18 : (Nat.beq (gr_cls (gd_rc 18)) 11 || Nat.beq (gr_cls (gd_rc 18)) 12) = false := by decide +kernel
theorem gk_b12_18 : Nat.beq (gr_bk (gd_rc 18)) 12 = false := by decide +kernel
theorem gk_bk18 : (bif Nat.beq (gr_bk (gd_rc 18)) 12 then 12 else 11) = 11 := by decide +kernel
-- 18
theorem gk_nc19 : Nat.beq 19 gd_mCode = false := by decide +kernel
theorem gk_ml19 : gr_ml (gd_rc 19) = 1 := by decide +kernel
theorem gk_ln19 : gr_lng (gd_rc 19) = [] := by decide +kernel
theorem gk_rk19 : gd_rk (gr_ret (gd_rc 19)) = 0 := by decide +kernel
theorem gk_cl19 : gr_cls (gd_rc 19) = 7 := by decide +kernel
theorem gk_n11_19 : Nat.beq (gr_cls (gd_rc 19)) 11 = false := by decide +kernel
theorem gk_n10_19 : Nat.beq (gr_cls (gd_rc 19)) 10 = false := by decide +kernel
theorem gk_n12_19 : Nat.beq (gr_cls (gd_rc 19)) 12 = false := by decide +kernel
theorem gk_nt19 : (Nat.beq (gr_cls (gd_rc 19)) 11 || Nat.beq (gr_cls (gd_rc 19)) 12) = false := by decide +kernel
theorem gk_b12_19 : Nat.beq (gr_bk (gd_rc 19)) 12 = false := by decide +kernel
theorem gk_bk19 : (bif Nat.beq (gr_bk (gd_rc 19)) 12 then 12 else 11) = 11 := by decide +kernel
theorem gk_oi19 : (Nat.ble (gd_pcs []) 8 && Nat.ble 1 (gr_fr (gd_rc 19)) && Nat.ble 20 (gr_lo (gd_rc 19)) && Nat.beq 0 0) = true := by decide +kernel
theorem gk_nc20 : Nat.beq 20 gd_mCode = false := by decide +kernel
theorem gk_ml20 : gr_ml (gd_rc 20) = 2 := by decide +kernel
theorem gk_ln20 : gr_lng (gd_rc 20) = [] := by decide +kernel
theorem gk_rk20 : gd_rk (gr_ret (gd_rc 20)) = 0 := by decide +kernel
theorem gk_cl20 : gr_cls (gd_rc 20) = 7 := by decide +kernel
theorem gk_n11_20 : Nat.beq (gr_cls (gd_rc 20)) 11 = false := by decide +kernel
theorem gk_n10_20 : Nat.beq (gr_cls (gd_rc 20)) 10 = false := by decide +kernel
theorem gk_n12_20 : Nat.beq (gr_cls (gd_rc 20)) 12 = false := by decide +kernel
theorem gk_nt20 : (Nat.beq (gr_cls (gd_rc 20)) 11 || Nat.beq (gr_cls (gd_rc 20)) 12) = false := by decide +kernel
theorem gk_b12_20 : Nat.beq (gr_bk (gd_rc 20)) 12 = false := by decide +kernel
theorem gk_bk20 : (bif Nat.beq (gr_bk (gd_rc 20)) 12 then 12 else 11) = 11 := by decide +kernel
theorem gk_nc21 : Nat.beq 21 gd_mCode = false := by decide +kernel
theorem gk_ml21 : gr_ml (gd_rc 21) = 1 := by decide +kernel
theorem gk_ln21 : gr_lng (gd_rc 21) = [] := by decide +kernel
theorem gk_rk21 : gd_rk (gr_ret (gd_rc 21)) = 0 := by decide +kernel
theorem gk_cl21 : gr_cls (gd_rc 21) = 9 := by decide +kernel
theorem gk_n11_21 : Nat.beq (gr_cls (gd_rc 21)) 11 = false := by decide +kernel
theorem gk_n10_21 : Nat.beq (gr_cls (gd_rc 21)) 10 = false := by decide +kernel
theorem gk_n12_21 : Nat.beq (gr_cls (gd_rc 21)) 12 = false := by decide +kernel
theorem gk_nt21 : (Nat.beq (gr_cls (gd_rc 21)) 11 || Nat.beq (gr_cls (gd_rc 21)) 12) = false := by decide +kernel
theorem gk_b12_21 : Nat.beq (gr_bk (gd_rc 21)) 12 = false := by decide +kernel
theorem gk_bk21 : (bif Nat.beq (gr_bk (gd_rc 21)) 12 then 12 else 11) = 11 := by decide +kernel
theorem gk_oi21 : (Nat.ble (gd_pcs []) 8 && Nat.ble 1 (gr_fr (gd_rc 21)) && Nat.ble 20 (gr_lo (gd_rc 21)) && Nat.beq 0 0) = true := by decide +kernel
theorem gk_nc22 : Nat.beq 22 gd_mCode = false := by decide +kernel
theorem gk_ml22 : gr_ml (gd_rc 22) = 3 := by decide +kernel
theorem gk_ln22 : gr_lng (gd_rc 22) = [] := by decide +kernel
theorem gk_rk22 : gd_rk (gr_ret (gd_rc 22)) = 0 := by decide +kernel
theorem gk_cl22 : gr_cls (gd_rc 22) = 6 := by decide +kernel
theorem gk_n11_22 : Nat.beq (gr_cls (gd_rc 22)) 11 = false := by decide +kernel
theorem gk_n10_22 : Nat.beq (gr_cls (gd_rc 22)) 10 = false := by decide +kernel
theorem gk_n12_22 : Nat.beq (gr_cls (gd_rc 22)) 12 = false := by decide +kernel
theorem gk_nt22 : (Nat.beq (gr_cls (gd_rc 22)) 11 || Nat.beq (gr_cls (gd_rc 22)) 12) = false := by decide +kernel
theorem gk_b12_22 : Nat.beq (gr_bk (gd_rc 22)) 12 = true := by decide +kernel
theorem gk_bk22 : (bif Nat.beq (gr_bk (gd_rc 22)) 12 then 12 else 11) = 12 := by decide +kernel
theorem gk_nc23 : Nat.beq 23 gd_mCode = false := by decide +kernel
theorem gk_ml23 : gr_ml (gd_rc 23) = 6 := by decide +kernel
theorem gk_ln23 : gr_lng (gd_rc 23) = [] := by decide +kernel
theorem gk_rk23 : gd_rk (gr_ret (gd_rc 23)) = 1 := by decide +kernel
theorem gk_cl23 : gr_cls (gd_rc 23) = 6 := by decide +kernel
theorem gk_n11_23 : Nat.beq (gr_cls (gd_rc 23)) 11 = false := by decide +kernel
theorem gk_n10_23 : Nat.beq (gr_cls (gd_rc 23)) 10 = false := by decide +kernel
theorem gk_n12_23 : Nat.beq (gr_cls (gd_rc 23)) 12 = false := by decide +kernel
theorem gk_nt23 : (Nat.beq (gr_cls (gd_rc 23)) 11 || Nat.beq (gr_cls (gd_rc 23)) 12) = false := by decide +kernel
theorem gk_b12_23 : Nat.beq (gr_bk (gd_rc 23)) 12 = false := by decide +kernel
theorem gk_bk23 : (bif Nat.beq (gr_bk (gd_rc 23)) 12 then 12 else 11) = 11 := by decide +kernel
theorem gk_nc24 : Nat.beq 24 gd_mCode = false := by decide +kernel
theorem gk_ml24 : gr_ml (gd_rc 24) = 9 := by decide +kernel
theorem gk_ln24 : gr_lng (gd_rc 24) = [] := by decide +kernel
theorem gk_rk24 : gd_rk (gr_ret (gd_rc 24)) = 1 := by decide +kernel
theorem gk_cl24 : gr_cls (gd_rc 24) = 9 := by decide +kernel
theorem gk_n11_24 : Nat.beq (gr_cls (gd_rc 24)) 11 = false := by decide +kernel
theorem gk_n10_24 : Nat.beq (gr_cls (gd_rc 24)) 10 = false := by decide +kernel
theorem gk_n12_24 : Nat.beq (gr_cls (gd_rc 24)) 12 = false := by decide +kernel
theorem gk_nt24 : (Nat.beq (gr_cls (gd_rc 24)) 11 || Nat.beq (gr_cls (gd_rc 24)) 12) = false := by decide +kernel
theorem gk_b12_24 : Nat.beq (gr_bk (gd_rc 24)) 12 = true := by decide +kernel
theorem gk_bk24 : (bif Nat.beq (gr_bk (gd_rc 24)) 12 then 12 else 11) = 12 := by decide +kernel
theorem gk_nc25 : Nat.beq 25 gd_mCode = false := by decide +kernel
theorem gk_ml25 : gr_ml (gd_rc 25) = 2 := by decide +kernel
theorem gk_ln25 : gr_lng (gd_rc 25) = [] := by decide +kernel
theorem gk_rk25 : gd_rk (gr_ret (gd_rc 25)) = 1 := by decide +kernel
theorem gk_cl25 : gr_cls (gd_rc 25) = 6 := by decide +kernel
theorem gk_n11_25 : Nat.beq (gr_cls (gd_rc 25)) 11 = false := by decide +kernel
theorem gk_n10_25 : Nat.beq (gr_cls (gd_rc 25)) 10 = false := by decide +kernel
theorem gk_n12_25 : Nat.beq (gr_cls (gd_rc 25)) 12 = false := by decide +kernel
theorem gk_nt25 : (Nat.beq (gr_cls (gd_rc 25)) 11 || Nat.beq (gr_cls (gd_rc 25)) 12) = false := by decide +kernel
theorem gk_b12_25 : Nat.beq (gr_bk (gd_rc 25)) 12 = false := by decide +kernel
theorem gk_bk25 : (bif Nat.beq (gr_bk (gd_rc 25)) 12 then 12 else 11) = 11 := by decide +kernel
theorem gk_nc26 : Nat.beq 26 gd_mCode = false := by decide +kernel
theorem gk_ml26 : gr_ml (gd_rc 26) = 2 := by decide +kernel
theorem gk_ln26 : gr_lng (gd_rc 26) = [] := by decide +kernel
theorem gk_rk26 : gd_rk (gr_ret (gd_rc 26)) = 1 := by decide +kernel
theorem gk_cl26 : gr_cls (gd_rc 26) = 9 := by decide +kernel
theorem gk_n11_26 : Nat.beq (gr_cls (gd_rc 26)) 11 = false := by decide +kernel
theorem gk_n10_26 : Nat.beq (gr_cls (gd_rc 26)) 10 = false := by decide +kernel
theorem gk_n12_26 : Nat.beq (gr_cls (gd_rc 26)) 12 = false := by decide +kernel
theorem gk_nt26 : (Nat.beq (gr_cls (gd_rc 26)) 11 || Nat.beq (gr_cls (gd_rc 26)) 12) = false := by decide +kernel
theorem gk_b12_26 : Nat.beq (gr_bk (gd_rc 26)) 12 = false := by decide +kernel
theorem gk_bk26 : (bif Nat.beq (gr_bk (gd_rc 26)) 12 then 12 else 11) = 11 := by decide +kernel
theorem gk_nc27 : Nat.beq 27 gd_mCode = false := by decide +kernel
theorem gk_ml27 : gr_ml (gd_rc 27) = 2 := by decide +kernel
theorem gk_ln27 : gr_lng (gd_rc 27) = [] := by decide +kernel
theorem gk_rk27 : gd_rk (gr_ret (gd_rc 27)) = 1 := by decide +kernel
theorem gk_cl27 : gr_cls (gd_rc 27) = 15 := by decide +kernel
theorem gk_n11_27 : Nat.beq (gr_cls (gd_rc 27)) 11 = false := by decide +kernel
theorem gk_n10_27 : Nat.beq (gr_cls (gd_rc 27)) 10 = false := by decide +kernel
theorem gk_n12_27 : Nat.beq (gr_cls (gd_rc 27)) 12 = false := by decide +kernel
theorem gk_nt27 : (Nat.beq (gr_cls (gd_rc 27)) 11 || Nat.beq (gr_cls (gd_rc 27)) 12) = false := by decide +kernel
theorem gk_b12_27 : Nat.beq (gr_bk (gd_rc 27)) 12 = false := by decide +kernel
theorem gk_bk27 : (bif Nat.beq (gr_bk (gd_rc 27)) 12 then 12 else 11) = 11 := by decide +kernel
theorem gk_nc28 : Nat.beq 28 gd_mCode = false := by decide +kernel
theorem gk_ml28 : gr_ml (gd_rc 28) = 3 := by decide +kernel
theorem gk_ln28 : gr_lng (gd_rc 28) = [] := by decide +kernel
theorem gk_rk28 : gd_rk (gr_ret (gd_rc 28)) = 0 := by decide +kernel
theorem gk_cl28 : gr_cls (gd_rc 28) = 5 := by decide +kernel
theorem gk_n11_28 : Nat.beq (gr_cls (gd_rc 28)) 11 = false := by decide +kernel
theorem gk_n10_28 : Nat.beq (gr_cls (gd_rc 28)) 10 = false := by decide +kernel
theorem gk_n12_28 : Nat.beq (gr_cls (gd_rc 28)) 12 = false := by decide +kernel
theorem gk_nt28 : (Nat.beq (gr_cls (gd_rc 28)) 11 || Nat.beq (gr_cls (gd_rc 28)) 12) = false := by decide +kernel
theorem gk_b12_28 : Nat.beq (gr_bk (gd_rc 28)) 12 = true := by decide +kernel
theorem gk_bk28 : (bif Nat.beq (gr_bk (gd_rc 28)) 12 then 12 else 11) = 12 := by decide +kernel
theorem gk_nc29 : Nat.beq 29 gd_mCode = false := by decide +kernel
theorem gk_ml29 : gr_ml (gd_rc 29) = 1 := by decide +kernel
theorem gk_ln29 : gr_lng (gd_rc 29) = [] := by decide +kernel
theorem gk_rk29 : gd_rk (gr_ret (gd_rc 29)) = 0 := by decide +kernel
theorem gk_cl29 : gr_cls (gd_rc 29) = 5 := by decide +kernel
theorem gk_n11_29 : Nat.beq (gr_cls (gd_rc 29)) 11 = false := by decide +kernel
theorem gk_n10_29 : Nat.beq (gr_cls (gd_rc 29)) 10 = false := by decide +kernel
theorem gk_n12_29 : Nat.beq (gr_cls (gd_rc 29)) 12 = false := by decide +kernel
theorem gk_nt29 : (Nat.beq (gr_cls (gd_rc 29)) 11 || Nat.beq (gr_cls (gd_rc 29)) 12) = false := by decide +kernel
theorem gk_b12_29 : Nat.beq (gr_bk (gd_rc 29)) 12 = true := by decide +kernel
theorem gk_bk29 : (bif Nat.beq (gr_bk (gd_rc 29)) 12 then 12 else 11) = 12 := by decide +kernel
theorem gk_nc30 : Nat.beq 30 gd_mCode = false := by decide +kernel
theorem gk_ml30 : gr_ml (gd_rc 30) = 2 := by decide +kernel
theorem gk_ln30 : gr_lng (gd_rc 30) = [] := by decide +kernel
theorem gk_rk30 : gd_rk (gr_ret (gd_rc 30)) = 0 := by decide +kernel
theorem gk_cl30 : gr_cls (gd_rc 30) = 5 := by decide +kernel
theorem gk_n11_30 : Nat.beq (gr_cls (gd_rc 30)) 11 = false := by decide +kernel
theorem gk_n10_30 : Nat.beq (gr_cls (gd_rc 30)) 10 = false := by decide +kernel
theorem gk_n12_30 : Nat.beq (gr_cls (gd_rc 30)) 12 = false := by decide +kernel
theorem gk_nt30 : (Nat.beq (gr_cls (gd_rc 30)) 11 || Nat.beq (gr_cls (gd_rc 30)) 12) = false := by decide +kernel
theorem gk_b12_30 : Nat.beq (gr_bk (gd_rc 30)) 12 = true := by decide +kernel
theorem gk_bk30 : (bif Nat.beq (gr_bk (gd_rc 30)) 12 then 12 else 11) = 12 := by decide +kernel
theorem gk_nc31 : Nat.beq 31 gd_mCode = false := by decide +kernel
theorem gk_ml31 : gr_ml (gd_rc 31) = 1 := by decide +kernel
theorem gk_ln31 : gr_lng (gd_rc 31) = [] := by decide +kernel
theorem gk_rk31 : gd_rk (gr_ret (gd_rc 31)) = 0 := by decide +kernel
theorem gk_cl31 : gr_cls (gd_rc 31) = 5 := by decide +kernel
theorem gk_n11_31 : Nat.beq (gr_cls (gd_rc 31)) 11 = false := by decide +kernel
theorem gk_n10_31 : Nat.beq (gr_cls (gd_rc 31)) 10 = false := by decide +kernel
theorem gk_n12_31 : Nat.beq (gr_cls (gd_rc 31)) 12 = false := by decide +kernel
theorem gk_nt31 : (Nat.beq (gr_cls (gd_rc 31)) 11 || Nat.beq (gr_cls (gd_rc 31)) 12) = false := by decide +kernel
theorem gk_b12_31 : Nat.beq (gr_bk (gd_rc 31)) 12 = true := by decide +kernel
theorem gk_bk31 : (bif Nat.beq (gr_bk (gd_rc 31)) 12 then 12 else 11) = 12 := by decide +kernel
theorem gk_nc32 : Nat.beq 32 gd_mCode = false := by decide +kernel
theorem gk_ml32 : gr_ml (gd_rc 32) = 1 := by decide +kernel
theorem gk_ln32 : gr_lng (gd_rc 32) = [] := by decide +kernel
theorem gk_rk32 : gd_rk (gr_ret (gd_rc 32)) = 0 := by decide +kernel
theorem gk_cl32 : gr_cls (gd_rc 32) = 5 := by decide +kernel
theorem gk_n11_32 : Nat.beq (gr_cls (gd_rc 32)) 11 = false := by decide +kernel
theorem gk_n10_32 : Nat.beq (gr_cls (gd_rc 32)) 10 = false := by decide +kernel
theorem gk_n12_32 : Nat.beq (gr_cls (gd_rc 32)) 12 = false := by decide +kernel
theorem gk_nt32 : (Nat.beq (gr_cls (gd_rc 32)) 11 || Nat.beq (gr_cls (gd_rc 32)) 12) = false := by decide +kernel
theorem gk_b12_32 : Nat.beq (gr_bk (gd_rc 32)) 12 = true := by decide +kernel
theorem gk_bk32 : (bif Nat.beq (gr_bk (gd_rc 32)) 12 then 12 else 11) = 12 := by decide +kernel
theorem gk_nc33 : Nat.beq 33 gd_mCode = false := by decide +kernel
theorem gk_ml33 : gr_ml (gd_rc 33) = 2 := by decide +kernel
theorem gk_ln33 : gr_lng (gd_rc 33) = [] := by decide +kernel
theorem gk_rk33 : gd_rk (gr_ret (gd_rc 33)) = 1 := by decide +kernel
theorem gk_cl33 : gr_cls (gd_rc 33) = 3 := by decide +kernel
theorem gk_n11_33 : Nat.beq (gr_cls (gd_rc 33)) 11 = false := by decide +kernel
theorem gk_n10_33 : Nat.beq (gr_cls (gd_rc 33)) 10 = false := by decide +kernel
theorem gk_n12_33 : Nat.beq (gr_cls (gd_rc 33)) 12 = false := by decide +kernel
theorem gk_nt33 : (Nat.beq (gr_cls (gd_rc 33)) 11 || Nat.beq (gr_cls (gd_rc 33)) 12) = false := by decide +kernel
theorem gk_b12_33 : Nat.beq (gr_bk (gd_rc 33)) 12 = false := by decide +kernel
theorem gk_bk33 : (bif Nat.beq (gr_bk (gd_rc 33)) 12 then 12 else 11) = 11 := by decide +kernel
theorem gk_nc34 : Nat.beq 34 gd_mCode = false := by decide +kernel
theorem gk_ml34 : gr_ml (gd_rc 34) = 2 := by decide +kernel
theorem gk_ln34 : gr_lng (gd_rc 34) = [] := by decide +kernel
theorem gk_rk34 : gd_rk (gr_ret (gd_rc 34)) = 1 := by decide +kernel
theorem gk_cl34 : gr_cls (gd_rc 34) = 3 := by decide +kernel
theorem gk_n11_34 : Nat.beq (gr_cls (gd_rc 34)) 11 = false := by decide +kernel
theorem gk_n10_34 : Nat.beq (gr_cls (gd_rc 34)) 10 = false := by decide +kernel
theorem gk_n12_34 : Nat.beq (gr_cls (gd_rc 34)) 12 = false := by decide +kernel
theorem gk_nt34 : (Nat.beq (gr_cls (gd_rc 34)) 11 || Nat.beq (gr_cls (gd_rc 34)) 12) = false := by decide +kernel
theorem gk_b12_34 : Nat.beq (gr_bk (gd_rc 34)) 12 = false := by decide +kernel
theorem gk_bk34 : (bif Nat.beq (gr_bk (gd_rc 34)) 12 then 12 else 11) = 11 := by decide +kernel
theorem gk_nc35 : Nat.beq 35 gd_mCode = false := by decide +kernel
theorem gk_ml35 : gr_ml (gd_rc 35) = 3 := by decide +kernel
theorem gk_ln35 : gr_lng (gd_rc 35) = [] := by decide +kernel
theorem gk_rk35 : gd_rk (gr_ret (gd_rc 35)) = 4 := by decide +kernel
theorem gk_cl35 : gr_cls (gd_rc 35) = 3 := by decide +kernel
theorem gk_n11_35 : Nat.beq (gr_cls (gd_rc 35)) 11 = false := by decide +kernel
theorem gk_n10_35 : Nat.beq (gr_cls (gd_rc 35)) 10 = false := by decide +kernel
theorem gk_n12_35 : Nat.beq (gr_cls (gd_rc 35)) 12 = false := by decide +kernel
theorem gk_nt35 : (Nat.beq (gr_cls (gd_rc 35)) 11 || Nat.beq (gr_cls (gd_rc 35)) 12) = false := by decide +kernel
theorem gk_b12_35 : Nat.beq (gr_bk (gd_rc 35)) 12 = false := by decide +kernel
theorem gk_bk35 : (bif Nat.beq (gr_bk (gd_rc 35)) 12 then 12 else 11) = 11 := by decide +kernel
theorem gk_nc36 : Nat.beq 36 gd_mCode = false := by decide +kernel
theorem gk_ml36 : gr_ml (gd_rc 36) = 1 := by decide +kernel
theorem gk_ln36 : gr_lng (gd_rc 36) = [] := by decide +kernel
theorem gk_rk36 : gd_rk (gr_ret (gd_rc 36)) = 4 := by decide +kernel
theorem gk_cl36 : gr_cls (gd_rc 36) = 5 := by decide +kernel
theorem gk_n11_36 : Nat.beq (gr_cls (gd_rc 36)) 11 = false := by decide +kernel
theorem gk_n10_36 : Nat.beq (gr_cls (gd_rc 36)) 10 = false := by decide +kernel
theorem gk_n12_36 : Nat.beq (gr_cls (gd_rc 36)) 12 = false := by decide +kernel
theorem gk_nt36 : (Nat.beq (gr_cls (gd_rc 36)) 11 || Nat.beq (gr_cls (gd_rc 36)) 12) = false := by decide +kernel
theorem gk_b12_36 : Nat.beq (gr_bk (gd_rc 36)) 12 = true := by decide +kernel
theorem gk_bk36 : (bif Nat.beq (gr_bk (gd_rc 36)) 12 then 12 else 11) = 12 := by decide +kernel
theorem gk_nc37 : Nat.beq 37 gd_mCode = false := by decide +kernel
theorem gk_ml37 : gr_ml (gd_rc 37) = 4 := by decide +kernel
theorem gk_ln37 : gr_lng (gd_rc 37) = [] := by decide +kernel
theorem gk_rk37 : gd_rk (gr_ret (gd_rc 37)) = 1 := by decide +kernel
theorem gk_cl37 : gr_cls (gd_rc 37) = 3 := by decide +kernel
theorem gk_n11_37 : Nat.beq (gr_cls (gd_rc 37)) 11 = false := by decide +kernel
theorem gk_n10_37 : Nat.beq (gr_cls (gd_rc 37)) 10 = false := by decide +kernel
theorem gk_n12_37 : Nat.beq (gr_cls (gd_rc 37)) 12 = false := by decide +kernel
theorem gk_nt37 : (Nat.beq (gr_cls (gd_rc 37)) 11 || Nat.beq (gr_cls (gd_rc 37)) 12) = false := by decide +kernel
theorem gk_b12_37 : Nat.beq (gr_bk (gd_rc 37)) 12 = false := by decide +kernel
theorem gk_bk37 : (bif Nat.beq (gr_bk (gd_rc 37)) 12 then 12 else 11) = 11 := by decide +kernel
theorem gk_nc38 : Nat.beq 38 gd_mCode = false := by decide +kernel
theorem gk_ml38 : gr_ml (gd_rc 38) = 3 := by decide +kernel
theorem gk_ln38 : gr_lng (gd_rc 38) = [] := by decide +kernel
theorem gk_rk38 : gd_rk (gr_ret (gd_rc 38)) = 4 := by decide +kernel
theorem gk_cl38 : gr_cls (gd_rc 38) = 3 := by decide +kernel
theorem gk_n11_38 : Nat.beq (gr_cls (gd_rc 38)) 11 = false := by decide +kernel
theorem gk_n10_38 : Nat.beq (gr_cls (gd_rc 38)) 10 = false := by decide +kernel
theorem gk_n12_38 : Nat.beq (gr_cls (gd_rc 38)) 12 = false := by decide +kernel
theorem gk_nt38 : (Nat.beq (gr_cls (gd_rc 38)) 11 || Nat.beq (gr_cls (gd_rc 38)) 12) = false := by decide +kernel
theorem gk_b12_38 : Nat.beq (gr_bk (gd_rc 38)) 12 = false := by decide +kernel
theorem gk_bk38 : (bif Nat.beq (gr_bk (gd_rc 38)) 12 then 12 else 11) = 11 := by decide +kernel
theorem gk_nc39 : Nat.beq 39 gd_mCode = false := by decide +kernel
theorem gk_ml39 : gr_ml (gd_rc 39) = 3 := by decide +kernel
theorem gk_ln39 : gr_lng (gd_rc 39) = [] := by decide +kernel
theorem gk_rk39 : gd_rk (gr_ret (gd_rc 39)) = 1 := by decide +kernel
theorem gk_cl39 : gr_cls (gd_rc 39) = 3 := by decide +kernel
theorem gk_n11_39 : Nat.beq (gr_cls (gd_rc 39)) 11 = false := by decide +kernel
theorem gk_n10_39 : Nat.beq (gr_cls (gd_rc 39)) 10 = false := by decide +kernel
theorem gk_n12_39 : Nat.beq (gr_cls (gd_rc 39)) 12 = false := by decide +kernel
theorem gk_nt39 : (Nat.beq (gr_cls (gd_rc 39)) 11 || Nat.beq (gr_cls (gd_rc 39)) 12) = false := by decide +kernel
theorem gk_b12_39 : Nat.beq (gr_bk (gd_rc 39)) 12 = false := by decide +kernel
theorem gk_bk39 : (bif Nat.beq (gr_bk (gd_rc 39)) 12 then 12 else 11) = 11 := by decide +kernel
theorem gk_nc40 : Nat.beq 40 gd_mCode = false := by decide +kernel
theorem gk_ml40 : gr_ml (gd_rc 40) = 3 := by decide +kernel
theorem gk_ln40 : gr_lng (gd_rc 40) = [] := by decide +kernel
theorem gk_rk40 : gd_rk (gr_ret (gd_rc 40)) = 4 := by decide +kernel
theorem gk_cl40 : gr_cls (gd_rc 40) = 3 := by decide +kernel
theorem gk_n11_40 : Nat.beq (gr_cls (gd_rc 40)) 11 = false := by decide +kernel
theorem gk_n10_40 : Nat.beq (gr_cls (gd_rc 40)) 10 = false := by decide +kernel
theorem gk_n12_40 : Nat.beq (gr_cls (gd_rc 40)) 12 = false := by decide +kernel
theorem gk_nt40 : (Nat.beq (gr_cls (gd_rc 40)) 11 || Nat.beq (gr_cls (gd_rc 40)) 12) = false := by decide +kernel
theorem gk_b12_40 : Nat.beq (gr_bk (gd_rc 40)) 12 = false := by decide +kernel
theorem gk_bk40 : (bif Nat.beq (gr_bk (gd_rc 40)) 12 then 12 else 11) = 11 := by decide +kernel
theorem gk_nc41 : Nat.beq 41 gd_mCode = false := by decide +kernel
theorem gk_ml41 : gr_ml (gd_rc 41) = 2 := by decide +kernel
theorem gk_ln41 : gr_lng (gd_rc 41) = [] := by decide +kernel
theorem gk_rk41 : gd_rk (gr_ret (gd_rc 41)) = 4 := by decide +kernel
theorem gk_cl41 : gr_cls (gd_rc 41) = 3 := by decide +kernel
theorem gk_n11_41 : Nat.beq (gr_cls (gd_rc 41)) 11 = false := by decide +kernel
theorem gk_n10_41 : Nat.beq (gr_cls (gd_rc 41)) 10 = false := by decide +kernel
theorem gk_n12_41 : Nat.beq (gr_cls (gd_rc 41)) 12 = false := by decide +kernel
theorem gk_nt41 : (Nat.beq (gr_cls (gd_rc 41)) 11 || Nat.beq (gr_cls (gd_rc 41)) 12) = false := by decide +kernel
theorem gk_b12_41 : Nat.beq (gr_bk (gd_rc 41)) 12 = false := by decide +kernel
theorem gk_bk41 : (bif Nat.beq (gr_bk (gd_rc 41)) 12 then 12 else 11) = 11 := by decide +kernel
theorem gk_nc42 : Nat.beq 42 gd_mCode = false := by decide +kernel
theorem gk_ml42 : gr_ml (gd_rc 42) = 2 := by decide +kernel
theorem gk_ln42 : gr_lng (gd_rc 42) = [] := by decide +kernel
theorem gk_rk42 : gd_rk (gr_ret (gd_rc 42)) = 1 := by decide +kernel
theorem gk_cl42 : gr_cls (gd_rc 42) = 3 := by decide +kernel
theorem gk_n11_42 : Nat.beq (gr_cls (gd_rc 42)) 11 = false := by decide +kernel
theorem gk_n10_42 : Nat.beq (gr_cls (gd_rc 42)) 10 = false := by decide +kernel
theorem gk_n12_42 : Nat.beq (gr_cls (gd_rc 42)) 12 = false := by decide +kernel
theorem gk_nt42 : (Nat.beq (gr_cls (gd_rc 42)) 11 || Nat.beq (gr_cls (gd_rc 42)) 12) = false := by decide +kernel
theorem gk_b12_42 : Nat.beq (gr_bk (gd_rc 42)) 12 = false := by decide +kernel
theorem gk_bk42 : (bif Nat.beq (gr_bk (gd_rc 42)) 12 then 12 else 11) = 11 := by decide +kernel
theorem gk_nc43 : Nat.beq 43 gd_mCode = false := by decide +kernel
theorem gk_ml43 : gr_ml (gd_rc 43) = 1 := by decide +kernel
theorem gk_ln43 : gr_lng (gd_rc 43) = [] := by decide +kernel
theorem gk_rk43 : gd_rk (gr_ret (gd_rc 43)) = 4 := by decide +kernel
theorem gk_cl43 : gr_cls (gd_rc 43) = 3 := by decide +kernel
theorem gk_n11_43 : Nat.beq (gr_cls (gd_rc 43)) 11 = false := by decide +kernel
theorem gk_n10_43 : Nat.beq (gr_cls (gd_rc 43)) 10 = false := by decide +kernel
theorem gk_n12_43 : Nat.beq (gr_cls (gd_rc 43)) 12 = false := by decide +kernel
theorem gk_nt43 : (Nat.beq (gr_cls (gd_rc 43)) 11 || Nat.beq (gr_cls (gd_rc 43)) 12) = false := by decide +kernel
theorem gk_b12_43 : Nat.beq (gr_bk (gd_rc 43)) 12 = false := by decide +kernel
theorem gk_bk43 : (bif Nat.beq (gr_bk (gd_rc 43)) 12 then 12 else 11) = 11 := by decide +kernel
theorem gk_nc44 : Nat.beq 44 gd_mCode = false := by decide +kernel
theorem gk_ml44 : gr_ml (gd_rc 44) = 1 := by decide +kernel
theorem gk_ln44 : gr_lng (gd_rc 44) = [] := by decide +kernel
theorem gk_rk44 : gd_rk (gr_ret (gd_rc 44)) = 4 := by decide +kernel
theorem gk_cl44 : gr_cls (gd_rc 44) = 3 := by decide +kernel
theorem gk_n11_44 : Nat.beq (gr_cls (gd_rc 44)) 11 = false := by decide +kernel
theorem gk_n10_44 : Nat.beq (gr_cls (gd_rc 44)) 10 = false := by decide +kernel
theorem gk_n12_44 : Nat.beq (gr_cls (gd_rc 44)) 12 = false := by decide +kernel
theorem gk_nt44 : (Nat.beq (gr_cls (gd_rc 44)) 11 || Nat.beq (gr_cls (gd_rc 44)) 12) = false := by decide +kernel
theorem gk_b12_44 : Nat.beq (gr_bk (gd_rc 44)) 12 = false := by decide +kernel
theorem gk_bk44 : (bif Nat.beq (gr_bk (gd_rc 44)) 12 then 12 else 11) = 11 := by decide +kernel
theorem gk_nc45 : Nat.beq 45 gd_mCode = false := by decide +kernel
theorem gk_ml45 : gr_ml (gd_rc 45) = 4 := by decide +kernel
theorem gk_ln45 : gr_lng (gd_rc 45) = [] := by decide +kernel
theorem gk_rk45 : gd_rk (gr_ret (gd_rc 45)) = 0 := by decide +kernel
theorem gk_cl45 : gr_cls (gd_rc 45) = 1 := by decide +kernel
theorem gk_n11_45 : Nat.beq (gr_cls (gd_rc 45)) 11 = false := by decide +kernel
theorem gk_n10_45 : Nat.beq (gr_cls (gd_rc 45)) 10 = false := by decide +kernel
theorem gk_n12_45 : Nat.beq (gr_cls (gd_rc 45)) 12 = false := by decide +kernel
theorem gk_nt45 : (Nat.beq (gr_cls (gd_rc 45)) 11 || Nat.beq (gr_cls (gd_rc 45)) 12) = false := by decide +kernel
theorem gk_b12_45 : Nat.beq (gr_bk (gd_rc 45)) 12 = false := by decide +kernel
theorem gk_bk45 : (bif Nat.beq (gr_bk (gd_rc 45)) 12 then 12 else 11) = 11 := by decide +kernel
theorem gk_nc46 : Nat.beq 46 gd_mCode = false := by decide +kernel
theorem gk_ml46 : gr_ml (gd_rc 46) = 5 := by decide +kernel
theorem gk_ln46 : gr_lng (gd_rc 46) = [] := by decide +kernel
theorem gk_rk46 : gd_rk (gr_ret (gd_rc 46)) = 4 := by decide +kernel
theorem gk_cl46 : gr_cls (gd_rc 46) = 3 := by decide +kernel
theorem gk_n11_46 : Nat.beq (gr_cls (gd_rc 46)) 11 = false := by decide +kernel
theorem gk_n10_46 : Nat.beq (gr_cls (gd_rc 46)) 10 = false := by decide +kernel
theorem gk_n12_46 : Nat.beq (gr_cls (gd_rc 46)) 12 = false := by decide +kernel
theorem gk_nt46 : (Nat.beq (gr_cls (gd_rc 46)) 11 || Nat.beq (gr_cls (gd_rc 46)) 12) = false := by decide +kernel
theorem gk_b12_46 : Nat.beq (gr_bk (gd_rc 46)) 12 = false := by decide +kernel
theorem gk_bk46 : (bif Nat.beq (gr_bk (gd_rc 46)) 12 then 12 else 11) = 11 := by decide +kernel
theorem gk_nc47 : Nat.beq 47 gd_mCode = false := by decide +kernel
theorem gk_ml47 : gr_ml (gd_rc 47) = 4 := by decide +kernel
theorem gk_ln47 : gr_lng (gd_rc 47) = [] := by decide +kernel
theorem gk_rk47 : gd_rk (gr_ret (gd_rc 47)) = 1 := by decide +kernel
theorem gk_cl47 : gr_cls (gd_rc 47) = 1 := by decide +kernel
theorem gk_n11_47 : Nat.beq (gr_cls (gd_rc 47)) 11 = false := by decide +kernel
theorem gk_n10_47 : Nat.beq (gr_cls (gd_rc 47)) 10 = false := by decide +kernel
theorem gk_n12_47 : Nat.beq (gr_cls (gd_rc 47)) 12 = false := by decide +kernel
theorem gk_nt47 : (Nat.beq (gr_cls (gd_rc 47)) 11 || Nat.beq (gr_cls (gd_rc 47)) 12) = false := by decide +kernel
theorem gk_b12_47 : Nat.beq (gr_bk (gd_rc 47)) 12 = false := by decide +kernel
theorem gk_bk47 : (bif Nat.beq (gr_bk (gd_rc 47)) 12 then 12 else 11) = 11 := by decide +kernel
theorem gk_nc48 : Nat.beq 48 gd_mCode = false := by decide +kernel
theorem gk_ml48 : gr_ml (gd_rc 48) = 3 := by decide +kernel
theorem gk_ln48 : gr_lng (gd_rc 48) = [] := by decide +kernel
theorem gk_rk48 : gd_rk (gr_ret (gd_rc 48)) = 1 := by decide +kernel
theorem gk_cl48 : gr_cls (gd_rc 48) = 3 := by decide +kernel
theorem gk_n11_48 : Nat.beq (gr_cls (gd_rc 48)) 11 = false := by decide +kernel
theorem gk_n10_48 : Nat.beq (gr_cls (gd_rc 48)) 10 = false := by decide +kernel
theorem gk_n12_48 : Nat.beq (gr_cls (gd_rc 48)) 12 = false := by decide +kernel
theorem gk_nt48 : (Nat.beq (gr_cls (gd_rc 48)) 11 || Nat.beq (gr_cls (gd_rc 48)) 12) = false := by decide +kernel
theorem gk_b12_48 : Nat.beq (gr_bk (gd_rc 48)) 12 = false := by decide +kernel
theorem gk_bk48 : (bif Nat.beq (gr_bk (gd_rc 48)) 12 then 12 else 11) = 11 := by decide +kernel
theorem gk_nc49 : Nat.beq 49 gd_mCode = false := by decide +kernel
theorem gk_ml49 : gr_ml (gd_rc 49) = 4 := by decide +kernel
theorem gk_ln49 : gr_lng (gd_rc 49) = [] := by decide +kernel
theorem gk_rk49 : gd_rk (gr_ret (gd_rc 49)) = 0 := by decide +kernel
theorem gk_cl49 : gr_cls (gd_rc 49) = 1 := by decide +kernel
theorem gk_n11_49 : Nat.beq (gr_cls (gd_rc 49)) 11 = false := by decide +kernel
theorem gk_n10_49 : Nat.beq (gr_cls (gd_rc 49)) 10 = false := by decide +kernel
theorem gk_n12_49 : Nat.beq (gr_cls (gd_rc 49)) 12 = false := by decide +kernel
theorem gk_nt49 : (Nat.beq (gr_cls (gd_rc 49)) 11 || Nat.beq (gr_cls (gd_rc 49)) 12) = false := by decide +kernel
theorem gk_b12_49 : Nat.beq (gr_bk (gd_rc 49)) 12 = false := by decide +kernel
theorem gk_bk49 : (bif Nat.beq (gr_bk (gd_rc 49)) 12 then 12 else 11) = 11 := by decide +kernel
theorem gk_nc50 : Nat.beq 50 gd_mCode = false := by decide +kernel
theorem gk_ml50 : gr_ml (gd_rc 50) = 4 := by decide +kernel
theorem gk_ln50 : gr_lng (gd_rc 50) = [] := by decide +kernel
theorem gk_rk50 : gd_rk (gr_ret (gd_rc 50)) = 4 := by decide +kernel
theorem gk_cl50 : gr_cls (gd_rc 50) = 3 := by decide +kernel
theorem gk_n11_50 : Nat.beq (gr_cls (gd_rc 50)) 11 = false := by decide +kernel
theorem gk_n10_50 : Nat.beq (gr_cls (gd_rc 50)) 10 = false := by decide +kernel
theorem gk_n12_50 : Nat.beq (gr_cls (gd_rc 50)) 12 = false := by decide +kernel
theorem gk_nt50 : (Nat.beq (gr_cls (gd_rc 50)) 11 || Nat.beq (gr_cls (gd_rc 50)) 12) = false := by decide +kernel
theorem gk_b12_50 : Nat.beq (gr_bk (gd_rc 50)) 12 = false := by decide +kernel
theorem gk_bk50 : (bif Nat.beq (gr_bk (gd_rc 50)) 12 then 12 else 11) = 11 := by decide +kernel
theorem gk_nc51 : Nat.beq 51 gd_mCode = false := by decide +kernel
theorem gk_ml51 : gr_ml (gd_rc 51) = 4 := by decide +kernel
theorem gk_ln51 : gr_lng (gd_rc 51) = [] := by decide +kernel
theorem gk_rk51 : gd_rk (gr_ret (gd_rc 51)) = 4 := by decide +kernel
theorem gk_cl51 : gr_cls (gd_rc 51) = 3 := by decide +kernel
theorem gk_n11_51 : Nat.beq (gr_cls (gd_rc 51)) 11 = false := by decide +kernel
theorem gk_n10_51 : Nat.beq (gr_cls (gd_rc 51)) 10 = false := by decide +kernel
theorem gk_n12_51 : Nat.beq (gr_cls (gd_rc 51)) 12 = false := by decide +kernel
theorem gk_nt51 : (Nat.beq (gr_cls (gd_rc 51)) 11 || Nat.beq (gr_cls (gd_rc 51)) 12) = false := by decide +kernel
theorem gk_b12_51 : Nat.beq (gr_bk (gd_rc 51)) 12 = false := by decide +kernel
theorem gk_bk51 : (bif Nat.beq (gr_bk (gd_rc 51)) 12 then 12 else 11) = 11 := by decide +kernel
theorem gk_nc52 : Nat.beq 52 gd_mCode = false := by decide +kernel
theorem gk_ml52 : gr_ml (gd_rc 52) = 3 := by decide +kernel
theorem gk_ln52 : gr_lng (gd_rc 52) = [] := by decide +kernel
theorem gk_rk52 : gd_rk (gr_ret (gd_rc 52)) = 4 := by decide +kernel
theorem gk_cl52 : gr_cls (gd_rc 52) = 3 := by decide +kernel
theorem gk_n11_52 : Nat.beq (gr_cls (gd_rc 52)) 11 = false := by decide +kernel
theorem gk_n10_52 : Nat.beq (gr_cls (gd_rc 52)) 10 = false := by decide +kernel
theorem gk_n12_52 : Nat.beq (gr_cls (gd_rc 52)) 12 = false := by decide +kernel
theorem gk_nt52 : (Nat.beq (gr_cls (gd_rc 52)) 11 || Nat.beq (gr_cls (gd_rc 52)) 12) = false := by decide +kernel
theorem gk_b12_52 : Nat.beq (gr_bk (gd_rc 52)) 12 = false := by decide +kernel
theorem gk_bk52 : (bif Nat.beq (gr_bk (gd_rc 52)) 12 then 12 else 11) = 11 := by decide +kernel
theorem gk_nc53 : Nat.beq 53 gd_mCode = false := by decide +kernel
theorem gk_ml53 : gr_ml (gd_rc 53) = 2 := by decide +kernel
theorem gk_ln53 : gr_lng (gd_rc 53) = [] := by decide +kernel
theorem gk_rk53 : gd_rk (gr_ret (gd_rc 53)) = 4 := by decide +kernel
theorem gk_cl53 : gr_cls (gd_rc 53) = 3 := by decide +kernel
theorem gk_n11_53 : Nat.beq (gr_cls (gd_rc 53)) 11 = false := by decide +kernel
theorem gk_n10_53 : Nat.beq (gr_cls (gd_rc 53)) 10 = false := by decide +kernel
theorem gk_n12_53 : Nat.beq (gr_cls (gd_rc 53)) 12 = false := by decide +kernel
theorem gk_nt53 : (Nat.beq (gr_cls (gd_rc 53)) 11 || Nat.beq (gr_cls (gd_rc 53)) 12) = false := by decide +kernel
theorem gk_b12_53 : Nat.beq (gr_bk (gd_rc 53)) 12 = false := by decide +kernel
theorem gk_bk53 : (bif Nat.beq (gr_bk (gd_rc 53)) 12 then 12 else 11) = 11 := by decide +kernel
theorem gk_nc54 : Nat.beq 54 gd_mCode = false := by decide +kernel
theorem gk_ml54 : gr_ml (gd_rc 54) = 3 := by decide +kernel
theorem gk_ln54 : gr_lng (gd_rc 54) = [] := by decide +kernel
theorem gk_rk54 : gd_rk (gr_ret (gd_rc 54)) = 0 := by decide +kernel
theorem gk_cl54 : gr_cls (gd_rc 54) = 1 := by decide +kernel
theorem gk_n11_54 : Nat.beq (gr_cls (gd_rc 54)) 11 = false := by decide +kernel
theorem gk_n10_54 : Nat.beq (gr_cls (gd_rc 54)) 10 = false := by decide +kernel
theorem gk_n12_54 : Nat.beq (gr_cls (gd_rc 54)) 12 = false := by decide +kernel
theorem gk_nt54 : (Nat.beq (gr_cls (gd_rc 54)) 11 || Nat.beq (gr_cls (gd_rc 54)) 12) = false := by decide +kernel
theorem gk_b12_54 : Nat.beq (gr_bk (gd_rc 54)) 12 = false := by decide +kernel
theorem gk_bk54 : (bif Nat.beq (gr_bk (gd_rc 54)) 12 then 12 else 11) = 11 := by decide +kernel
theorem gk_nc55 : Nat.beq 55 gd_mCode = false := by decide +kernel
theorem gk_ml55 : gr_ml (gd_rc 55) = 3 := by decide +kernel
theorem gk_ln55 : gr_lng (gd_rc 55) = [] := by decide +kernel
theorem gk_rk55 : gd_rk (gr_ret (gd_rc 55)) = 4 := by decide +kernel
theorem gk_cl55 : gr_cls (gd_rc 55) = 3 := by decide +kernel
theorem gk_n11_55 : Nat.beq (gr_cls (gd_rc 55)) 11 = false := by decide +kernel
theorem gk_n10_55 : Nat.beq (gr_cls (gd_rc 55)) 10 = false := by decide +kernel
theorem gk_n12_55 : Nat.beq (gr_cls (gd_rc 55)) 12 = false := by decide +kernel
theorem gk_nt55 : (Nat.beq (gr_cls (gd_rc 55)) 11 || Nat.beq (gr_cls (gd_rc 55)) 12) = false := by decide +kernel
theorem gk_b12_55 : Nat.beq (gr_bk (gd_rc 55)) 12 = false := by decide +kernel
theorem gk_bk55 : (bif Nat.beq (gr_bk (gd_rc 55)) 12 then 12 else 11) = 11 := by decide +kernel
theorem gk_nc56 : Nat.beq 56 gd_mCode = false := by decide +kernel
theorem gk_ml56 : gr_ml (gd_rc 56) = 5 := by decide +kernel
theorem gk_ln56 : gr_lng (gd_rc 56) = [] := by decide +kernel
theorem gk_rk56 : gd_rk (gr_ret (gd_rc 56)) = 4 := by decide +kernel
theorem gk_cl56 : gr_cls (gd_rc 56) = 3 := by decide +kernel
theorem gk_n11_56 : Nat.beq (gr_cls (gd_rc 56)) 11 = false := by decide +kernel
theorem gk_n10_56 : Nat.beq (gr_cls (gd_rc 56)) 10 = false := by decide +kernel
theorem gk_n12_56 : Nat.beq (gr_cls (gd_rc 56)) 12 = false := by decide +kernel
theorem gk_nt56 : (Nat.beq (gr_cls (gd_rc 56)) 11 || Nat.beq (gr_cls (gd_rc 56)) 12) = false := by decide +kernel
theorem gk_b12_56 : Nat.beq (gr_bk (gd_rc 56)) 12 = false := by decide +kernel
theorem gk_bk56 : (bif Nat.beq (gr_bk (gd_rc 56)) 12 then 12 else 11) = 11 := by decide +kernel
theorem gk_nc57 : Nat.beq 57 gd_mCode = false := by decide +kernel
theorem gk_ml57 : gr_ml (gd_rc 57) = 3 := by decide +kernel
theorem gk_ln57 : gr_lng (gd_rc 57) = [] := by decide +kernel
theorem gk_rk57 : gd_rk (gr_ret (gd_rc 57)) = 4 := by decide +kernel
theorem gk_cl57 : gr_cls (gd_rc 57) = 3 := by decide +kernel
theorem gk_n11_57 : Nat.beq (gr_cls (gd_rc 57)) 11 = false := by decide +kernel
theorem gk_n10_57 : Nat.beq (gr_cls (gd_rc 57)) 10 = false := by decide +kernel
theorem gk_n12_57 : Nat.beq (gr_cls (gd_rc 57)) 12 = false := by decide +kernel
theorem gk_nt57 : (Nat.beq (gr_cls (gd_rc 57)) 11 || Nat.beq (gr_cls (gd_rc 57)) 12) = false := by decide +kernel
theorem gk_b12_57 : Nat.beq (gr_bk (gd_rc 57)) 12 = false := by decide +kernel
theorem gk_bk57 : (bif Nat.beq (gr_bk (gd_rc 57)) 12 then 12 else 11) = 11 := by decide +kernel
theorem gk_nc58 : Nat.beq 58 gd_mCode = false := by decide +kernel
theorem gk_ml58 : gr_ml (gd_rc 58) = 2 := by decide +kernel
theorem gk_ln58 : gr_lng (gd_rc 58) = [] := by decide +kernel
theorem gk_rk58 : gd_rk (gr_ret (gd_rc 58)) = 4 := by decide +kernel
theorem gk_cl58 : gr_cls (gd_rc 58) = 3 := by decide +kernel
theorem gk_n11_58 : Nat.beq (gr_cls (gd_rc 58)) 11 = false := by decide +kernel
theorem gk_n10_58 : Nat.beq (gr_cls (gd_rc 58)) 10 = false := by decide +kernel
theorem gk_n12_58 : Nat.beq (gr_cls (gd_rc 58)) 12 = false := by decide +kernel
theorem gk_nt58 : (Nat.beq (gr_cls (gd_rc 58)) 11 || Nat.beq (gr_cls (gd_rc 58)) 12) = false := by decide +kernel
theorem gk_b12_58 : Nat.beq (gr_bk (gd_rc 58)) 12 = false := by decide +kernel
theorem gk_bk58 : (bif Nat.beq (gr_bk (gd_rc 58)) 12 then 12 else 11) = 11 := by decide +kernel
theorem gk_nc59 : Nat.beq 59 gd_mCode = false := by decide +kernel
theorem gk_ml59 : gr_ml (gd_rc 59) = 5 := by decide +kernel
theorem gk_ln59 : gr_lng (gd_rc 59) = [] := by decide +kernel
theorem gk_rk59 : gd_rk (gr_ret (gd_rc 59)) = 4 := by decide +kernel
theorem gk_cl59 : gr_cls (gd_rc 59) = 3 := by decide +kernel
theorem gk_n11_59 : Nat.beq (gr_cls (gd_rc 59)) 11 = false := by decide +kernel
theorem gk_n10_59 : Nat.beq (gr_cls (gd_rc 59)) 10 = false := by decide +kernel
theorem gk_n12_59 : Nat.beq (gr_cls (gd_rc 59)) 12 = false := by decide +kernel
theorem gk_nt59 : (Nat.beq (gr_cls (gd_rc 59)) 11 || Nat.beq (gr_cls (gd_rc 59)) 12) = false := by decide +kernel
theorem gk_b12_59 : Nat.beq (gr_bk (gd_rc 59)) 12 = false := by decide +kernel
theorem gk_bk59 : (bif Nat.beq (gr_bk (gd_rc 59)) 12 then 12 else 11) = 11 := by decide +kernel
theorem gk_nc60 : Nat.beq 60 gd_mCode = false := by decide +kernel
theorem gk_ml60 : gr_ml (gd_rc 60) = 2 := by decide +kernel
theorem gk_ln60 : gr_lng (gd_rc 60) = [] := by decide +kernel
theorem gk_rk60 : gd_rk (gr_ret (gd_rc 60)) = 0 := by decide +kernel
theorem gk_cl60 : gr_cls (gd_rc 60) = 6 := by decide +kernel
theorem gk_n11_60 : Nat.beq (gr_cls (gd_rc 60)) 11 = false := by decide +kernel
theorem gk_n10_60 : Nat.beq (gr_cls (gd_rc 60)) 10 = false := by decide +kernel
theorem gk_n12_60 : Nat.beq (gr_cls (gd_rc 60)) 12 = false := by decide +kernel
theorem gk_nt60 : (Nat.beq (gr_cls (gd_rc 60)) 11 || Nat.beq (gr_cls (gd_rc 60)) 12) = false := by decide +kernel
theorem gk_b12_60 : Nat.beq (gr_bk (gd_rc 60)) 12 = false := by decide +kernel
theorem gk_bk60 : (bif Nat.beq (gr_bk (gd_rc 60)) 12 then 12 else 11) = 11 := by decide +kernel
theorem gk_nc61 : Nat.beq 61 gd_mCode = false := by decide +kernel
theorem gk_ml61 : gr_ml (gd_rc 61) = 3 := by decide +kernel
theorem gk_ln61 : gr_lng (gd_rc 61) = [] := by decide +kernel
theorem gk_rk61 : gd_rk (gr_ret (gd_rc 61)) = 1 := by decide +kernel
theorem gk_cl61 : gr_cls (gd_rc 61) = 6 := by decide +kernel
theorem gk_n11_61 : Nat.beq (gr_cls (gd_rc 61)) 11 = false := by decide +kernel
theorem gk_n10_61 : Nat.beq (gr_cls (gd_rc 61)) 10 = false := by decide +kernel
theorem gk_n12_61 : Nat.beq (gr_cls (gd_rc 61)) 12 = false := by decide +kernel
theorem gk_nt61 : (Nat.beq (gr_cls (gd_rc 61)) 11 || Nat.beq (gr_cls (gd_rc 61)) 12) = false := by decide +kernel
theorem gk_b12_61 : Nat.beq (gr_bk (gd_rc 61)) 12 = false := by decide +kernel
theorem gk_bk61 : (bif Nat.beq (gr_bk (gd_rc 61)) 12 then 12 else 11) = 11 := by decide +kernel
theorem gk_nc62 : Nat.beq 62 gd_mCode = false := by decide +kernel
theorem gk_ml62 : gr_ml (gd_rc 62) = 2 := by decide +kernel
theorem gk_ln62 : gr_lng (gd_rc 62) = [] := by decide +kernel
theorem gk_rk62 : gd_rk (gr_ret (gd_rc 62)) = 1 := by decide +kernel
theorem gk_cl62 : gr_cls (gd_rc 62) = 9 := by decide +kernel
theorem gk_n11_62 : Nat.beq (gr_cls (gd_rc 62)) 11 = false := by decide +kernel
theorem gk_n10_62 : Nat.beq (gr_cls (gd_rc 62)) 10 = false := by decide +kernel
theorem gk_n12_62 : Nat.beq (gr_cls (gd_rc 62)) 12 = false := by decide +kernel
theorem gk_nt62 : (Nat.beq (gr_cls (gd_rc 62)) 11 || Nat.beq (gr_cls (gd_rc 62)) 12) = false := by decide +kernel
theorem gk_b12_62 : Nat.beq (gr_bk (gd_rc 62)) 12 = true := by decide +kernel
theorem gk_bk62 : (bif Nat.beq (gr_bk (gd_rc 62)) 12 then 12 else 11) = 12 := by decide +kernel
theorem gk_nc63 : Nat.beq 63 gd_mCode = false := by decide +kernel
theorem gk_ml63 : gr_ml (gd_rc 63) = 1 := by decide +kernel
theorem gk_ln63 : gr_lng (gd_rc 63) = [] := by decide +kernel
theorem gk_rk63 : gd_rk (gr_ret (gd_rc 63)) = 4 := by decide +kernel
theorem gk_cl63 : gr_cls (gd_rc 63) = 9 := by decide +kernel
theorem gk_n11_63 : Nat.beq (gr_cls (gd_rc 63)) 11 = false := by decide +kernel
theorem gk_n10_63 : Nat.beq (gr_cls (gd_rc 63)) 10 = false := by decide +kernel
theorem gk_n12_63 : Nat.beq (gr_cls (gd_rc 63)) 12 = false := by decide +kernel
theorem gk_nt63 : (Nat.beq (gr_cls (gd_rc 63)) 11 || Nat.beq (gr_cls (gd_rc 63)) 12) = false := by decide +kernel
theorem gk_b12_63 : Nat.beq (gr_bk (gd_rc 63)) 12 = false := by decide +kernel
theorem gk_bk63 : (bif Nat.beq (gr_bk (gd_rc 63)) 12 then 12 else 11) = 11 := by decide +kernel
theorem gk_nc64 : Nat.beq 64 gd_mCode = false := by decide +kernel
theorem gk_ml64 : gr_ml (gd_rc 64) = 8 := by decide +kernel
theorem gk_ln64 : gr_lng (gd_rc 64) = [] := by decide +kernel
theorem gk_rk64 : gd_rk (gr_ret (gd_rc 64)) = 1 := by decide +kernel
theorem gk_cl64 : gr_cls (gd_rc 64) = 9 := by decide +kernel
theorem gk_n11_64 : Nat.beq (gr_cls (gd_rc 64)) 11 = false := by decide +kernel
theorem gk_n10_64 : Nat.beq (gr_cls (gd_rc 64)) 10 = false := by decide +kernel
theorem gk_n12_64 : Nat.beq (gr_cls (gd_rc 64)) 12 = false := by decide +kernel
theorem gk_nt64 : (Nat.beq (gr_cls (gd_rc 64)) 11 || Nat.beq (gr_cls (gd_rc 64)) 12) = false := by decide +kernel
theorem gk_b12_64 : Nat.beq (gr_bk (gd_rc 64)) 12 = false := by decide +kernel
theorem gk_bk64 : (bif Nat.beq (gr_bk (gd_rc 64)) 12 then 12 else 11) = 11 := by decide +kernel
theorem gk_nc65 : Nat.beq 65 gd_mCode = false := by decide +kernel
theorem gk_ml65 : gr_ml (gd_rc 65) = 6 := by decide +kernel
theorem gk_ln65 : gr_lng (gd_rc 65) = [3] := by decide +kernel
theorem gk_rk65 : gd_rk (gr_ret (gd_rc 65)) = 2 := by decide +kernel
theorem gk_cl65 : gr_cls (gd_rc 65) = 9 := by decide +kernel
theorem gk_n11_65 : Nat.beq (gr_cls (gd_rc 65)) 11 = false := by decide +kernel
theorem gk_n10_65 : Nat.beq (gr_cls (gd_rc 65)) 10 = false := by decide +kernel
theorem gk_n12_65 : Nat.beq (gr_cls (gd_rc 65)) 12 = false := by decide +kernel
theorem gk_nt65 : (Nat.beq (gr_cls (gd_rc 65)) 11 || Nat.beq (gr_cls (gd_rc 65)) 12) = false := by decide +kernel
theorem gk_b12_65 : Nat.beq (gr_bk (gd_rc 65)) 12 = false := by decide +kernel
theorem gk_bk65 : (bif Nat.beq (gr_bk (gd_rc 65)) 12 then 12 else 11) = 11 := by decide +kernel
theorem gk_nc66 : Nat.beq 66 gd_mCode = false := by decide +kernel
theorem gk_ml66 : gr_ml (gd_rc 66) = 1 := by decide +kernel
theorem gk_ln66 : gr_lng (gd_rc 66) = [] := by decide +kernel
theorem gk_rk66 : gd_rk (gr_ret (gd_rc 66)) = 4 := by decide +kernel
theorem gk_cl66 : gr_cls (gd_rc 66) = 9 := by decide +kernel
theorem gk_n11_66 : Nat.beq (gr_cls (gd_rc 66)) 11 = false := by decide +kernel
theorem gk_n10_66 : Nat.beq (gr_cls (gd_rc 66)) 10 = false := by decide +kernel
theorem gk_n12_66 : Nat.beq (gr_cls (gd_rc 66)) 12 = false := by decide +kernel
theorem gk_nt66 : (Nat.beq (gr_cls (gd_rc 66)) 11 || Nat.beq (gr_cls (gd_rc 66)) 12) = false := by decide +kernel
theorem gk_b12_66 : Nat.beq (gr_bk (gd_rc 66)) 12 = false := by decide +kernel
theorem gk_bk66 : (bif Nat.beq (gr_bk (gd_rc 66)) 12 then 12 else 11) = 11 := by decide +kernel
theorem gk_nc67 : Nat.beq 67 gd_mCode = false := by decide +kernel
theorem gk_ml67 : gr_ml (gd_rc 67) = 4 := by decide +kernel
theorem gk_ln67 : gr_lng (gd_rc 67) = [] := by decide +kernel
theorem gk_rk67 : gd_rk (gr_ret (gd_rc 67)) = 0 := by decide +kernel
theorem gk_cl67 : gr_cls (gd_rc 67) = 9 := by decide +kernel
theorem gk_n11_67 : Nat.beq (gr_cls (gd_rc 67)) 11 = false := by decide +kernel
theorem gk_n10_67 : Nat.beq (gr_cls (gd_rc 67)) 10 = false := by decide +kernel
theorem gk_n12_67 : Nat.beq (gr_cls (gd_rc 67)) 12 = false := by decide +kernel
theorem gk_nt67 : (Nat.beq (gr_cls (gd_rc 67)) 11 || Nat.beq (gr_cls (gd_rc 67)) 12) = false := by decide +kernel
theorem gk_b12_67 : Nat.beq (gr_bk (gd_rc 67)) 12 = false := by decide +kernel
theorem gk_bk67 : (bif Nat.beq (gr_bk (gd_rc 67)) 12 then 12 else 11) = 11 := by decide +kernel
theorem gk_nc68 : Nat.beq 68 gd_mCode = false := by decide +kernel
theorem gk_ml68 : gr_ml (gd_rc 68) = 3 := by decide +kernel
theorem gk_ln68 : gr_lng (gd_rc 68) = [] := by decide +kernel
theorem gk_rk68 : gd_rk (gr_ret (gd_rc 68)) = 0 := by decide +kernel
theorem gk_cl68 : gr_cls (gd_rc 68) = 9 := by decide +kernel
theorem gk_n11_68 : Nat.beq (gr_cls (gd_rc 68)) 11 = false := by decide +kernel
theorem gk_n10_68 : Nat.beq (gr_cls (gd_rc 68)) 10 = false := by decide +kernel
theorem gk_n12_68 : Nat.beq (gr_cls (gd_rc 68)) 12 = false := by decide +kernel
theorem gk_nt68 : (Nat.beq (gr_cls (gd_rc 68)) 11 || Nat.beq (gr_cls (gd_rc 68)) 12) = false := by decide +kernel
theorem gk_b12_68 : Nat.beq (gr_bk (gd_rc 68)) 12 = false := by decide +kernel
theorem gk_bk68 : (bif Nat.beq (gr_bk (gd_rc 68)) 12 then 12 else 11) = 11 := by decide +kernel
theorem gk_nc69 : Nat.beq 69 gd_mCode = false := by decide +kernel
theorem gk_ml69 : gr_ml (gd_rc 69) = 1 := by decide +kernel
theorem gk_ln69 : gr_lng (gd_rc 69) = [] := by decide +kernel
theorem gk_rk69 : gd_rk (gr_ret (gd_rc 69)) = 0 := by decide +kernel
theorem gk_cl69 : gr_cls (gd_rc 69) = 9 := by decide +kernel
theorem gk_n11_69 : Nat.beq (gr_cls (gd_rc 69)) 11 = false := by decide +kernel
theorem gk_n10_69 : Nat.beq (gr_cls (gd_rc 69)) 10 = false := by decide +kernel
theorem gk_n12_69 : Nat.beq (gr_cls (gd_rc 69)) 12 = false := by decide +kernel
theorem gk_nt69 : (Nat.beq (gr_cls (gd_rc 69)) 11 || Nat.beq (gr_cls (gd_rc 69)) 12) = false := by decide +kernel
theorem gk_b12_69 : Nat.beq (gr_bk (gd_rc 69)) 12 = false := by decide +kernel
theorem gk_bk69 : (bif Nat.beq (gr_bk (gd_rc 69)) 12 then 12 else 11) = 11 := by decide +kernel
theorem gk_nc70 : Nat.beq 70 gd_mCode = false := by decide +kernel
theorem gk_ml70 : gr_ml (gd_rc 70) = 6 := by decide +kernel
theorem gk_ln70 : gr_lng (gd_rc 70) = [1, 3] := by decide +kernel
theorem gk_rk70 : gd_rk (gr_ret (gd_rc 70)) = 1 := by decide +kernel
theorem gk_cl70 : gr_cls (gd_rc 70) = 9 := by decide +kernel
theorem gk_n11_70 : Nat.beq (gr_cls (gd_rc 70)) 11 = false := by decide +kernel
theorem gk_n10_70 : Nat.beq (gr_cls (gd_rc 70)) 10 = false := by decide +kernel
theorem gk_n12_70 : Nat.beq (gr_cls (gd_rc 70)) 12 = false := by decide +kernel
theorem gk_nt70 : (Nat.beq (gr_cls (gd_rc 70)) 11 || Nat.beq (gr_cls (gd_rc 70)) 12) = false := by decide +kernel
theorem gk_b12_70 : Nat.beq (gr_bk (gd_rc 70)) 12 = false := by decide +kernel
theorem gk_bk70 : (bif Nat.beq (gr_bk (gd_rc 70)) 12 then 12 else 11) = 11 := by decide +kernel
theorem gk_nc71 : Nat.beq 71 gd_mCode = false := by decide +kernel
theorem gk_ml71 : gr_ml (gd_rc 71) = 3 := by decide +kernel
theorem gk_ln71 : gr_lng (gd_rc 71) = [] := by decide +kernel
theorem gk_rk71 : gd_rk (gr_ret (gd_rc 71)) = 4 := by decide +kernel
theorem gk_cl71 : gr_cls (gd_rc 71) = 9 := by decide +kernel
theorem gk_n11_71 : Nat.beq (gr_cls (gd_rc 71)) 11 = false := by decide +kernel
theorem gk_n10_71 : Nat.beq (gr_cls (gd_rc 71)) 10 = false := by decide +kernel
theorem gk_n12_71 : Nat.beq (gr_cls (gd_rc 71)) 12 = false := by decide +kernel
theorem gk_nt71 : (Nat.beq (gr_cls (gd_rc 71)) 11 || Nat.beq (gr_cls (gd_rc 71)) 12) = false := by decide +kernel
theorem gk_b12_71 : Nat.beq (gr_bk (gd_rc 71)) 12 = false := by decide +kernel
theorem gk_bk71 : (bif Nat.beq (gr_bk (gd_rc 71)) 12 then 12 else 11) = 11 := by decide +kernel
theorem gk_nc72 : Nat.beq 72 gd_mCode = false := by decide +kernel
theorem gk_ml72 : gr_ml (gd_rc 72) = 4 := by decide +kernel
theorem gk_ln72 : gr_lng (gd_rc 72) = [] := by decide +kernel
theorem gk_rk72 : gd_rk (gr_ret (gd_rc 72)) = 1 := by decide +kernel
theorem gk_cl72 : gr_cls (gd_rc 72) = 9 := by decide +kernel
theorem gk_n11_72 : Nat.beq (gr_cls (gd_rc 72)) 11 = false := by decide +kernel
theorem gk_n10_72 : Nat.beq (gr_cls (gd_rc 72)) 10 = false := by decide +kernel
theorem gk_n12_72 : Nat.beq (gr_cls (gd_rc 72)) 12 = false := by decide +kernel
theorem gk_nt72 : (Nat.beq (gr_cls (gd_rc 72)) 11 || Nat.beq (gr_cls (gd_rc 72)) 12) = false := by decide +kernel
theorem gk_b12_72 : Nat.beq (gr_bk (gd_rc 72)) 12 = false := by decide +kernel
theorem gk_bk72 : (bif Nat.beq (gr_bk (gd_rc 72)) 12 then 12 else 11) = 11 := by decide +kernel
theorem gk_nc73 : Nat.beq 73 gd_mCode = false := by decide +kernel
theorem gk_ml73 : gr_ml (gd_rc 73) = 2 := by decide +kernel
theorem gk_ln73 : gr_lng (gd_rc 73) = [] := by decide +kernel
theorem gk_rk73 : gd_rk (gr_ret (gd_rc 73)) = 4 := by decide +kernel
theorem gk_cl73 : gr_cls (gd_rc 73) = 9 := by decide +kernel
theorem gk_n11_73 : Nat.beq (gr_cls (gd_rc 73)) 11 = false := by decide +kernel
theorem gk_n10_73 : Nat.beq (gr_cls (gd_rc 73)) 10 = false := by decide +kernel
theorem gk_n12_73 : Nat.beq (gr_cls (gd_rc 73)) 12 = false := by decide +kernel
theorem gk_nt73 : (Nat.beq (gr_cls (gd_rc 73)) 11 || Nat.beq (gr_cls (gd_rc 73)) 12) = false := by decide +kernel
theorem gk_b12_73 : Nat.beq (gr_bk (gd_rc 73)) 12 = false := by decide +kernel
theorem gk_bk73 : (bif Nat.beq (gr_bk (gd_rc 73)) 12 then 12 else 11) = 11 := by decide +kernel
theorem gk_nc74 : Nat.beq 74 gd_mCode = false := by decide +kernel
theorem gk_ml74 : gr_ml (gd_rc 74) = 2 := by decide +kernel
theorem gk_ln74 : gr_lng (gd_rc 74) = [] := by decide +kernel
theorem gk_rk74 : gd_rk (gr_ret (gd_rc 74)) = 0 := by decide +kernel
theorem gk_cl74 : gr_cls (gd_rc 74) = 9 := by decide +kernel
theorem gk_n11_74 : Nat.beq (gr_cls (gd_rc 74)) 11 = false := by decide +kernel
theorem gk_n10_74 : Nat.beq (gr_cls (gd_rc 74)) 10 = false := by decide +kernel
theorem gk_n12_74 : Nat.beq (gr_cls (gd_rc 74)) 12 = false := by decide +kernel
theorem gk_nt74 : (Nat.beq (gr_cls (gd_rc 74)) 11 || Nat.beq (gr_cls (gd_rc 74)) 12) = false := by decide +kernel
theorem gk_b12_74 : Nat.beq (gr_bk (gd_rc 74)) 12 = false := by decide +kernel
theorem gk_bk74 : (bif Nat.beq (gr_bk (gd_rc 74)) 12 then 12 else 11) = 11 := by decide +kernel
theorem gk_nc75 : Nat.beq 75 gd_mCode = false := by decide +kernel
theorem gk_ml75 : gr_ml (gd_rc 75) = 2 := by decide +kernel
theorem gk_ln75 : gr_lng (gd_rc 75) = [] := by decide +kernel
theorem gk_rk75 : gd_rk (gr_ret (gd_rc 75)) = 1 := by decide +kernel
theorem gk_cl75 : gr_cls (gd_rc 75) = 9 := by decide +kernel
theorem gk_n11_75 : Nat.beq (gr_cls (gd_rc 75)) 11 = false := by decide +kernel
theorem gk_n10_75 : Nat.beq (gr_cls (gd_rc 75)) 10 = false := by decide +kernel
theorem gk_n12_75 : Nat.beq (gr_cls (gd_rc 75)) 12 = false := by decide +kernel
theorem gk_nt75 : (Nat.beq (gr_cls (gd_rc 75)) 11 || Nat.beq (gr_cls (gd_rc 75)) 12) = false := by decide +kernel
theorem gk_b12_75 : Nat.beq (gr_bk (gd_rc 75)) 12 = false := by decide +kernel
theorem gk_bk75 : (bif Nat.beq (gr_bk (gd_rc 75)) 12 then 12 else 11) = 11 := by decide +kernel
theorem gk_nc76 : Nat.beq 76 gd_mCode = false := by decide +kernel
theorem gk_ml76 : gr_ml (gd_rc 76) = 2 := by decide +kernel
theorem gk_ln76 : gr_lng (gd_rc 76) = [] := by decide +kernel
theorem gk_rk76 : gd_rk (gr_ret (gd_rc 76)) = 0 := by decide +kernel
theorem gk_cl76 : gr_cls (gd_rc 76) = 9 := by decide +kernel
theorem gk_n11_76 : Nat.beq (gr_cls (gd_rc 76)) 11 = false := by decide +kernel
theorem gk_n10_76 : Nat.beq (gr_cls (gd_rc 76)) 10 = false := by decide +kernel
theorem gk_n12_76 : Nat.beq (gr_cls (gd_rc 76)) 12 = false := by decide +kernel
theorem gk_nt76 : (Nat.beq (gr_cls (gd_rc 76)) 11 || Nat.beq (gr_cls (gd_rc 76)) 12) = false := by decide +kernel
theorem gk_b12_76 : Nat.beq (gr_bk (gd_rc 76)) 12 = false := by decide +kernel
theorem gk_bk76 : (bif Nat.beq (gr_bk (gd_rc 76)) 12 then 12 else 11) = 11 := by decide +kernel
theorem gk_nc77 : Nat.beq 77 gd_mCode = false := by decide +kernel
theorem gk_ml77 : gr_ml (gd_rc 77) = 3 := by decide +kernel
theorem gk_ln77 : gr_lng (gd_rc 77) = [] := by decide +kernel
theorem gk_rk77 : gd_rk (gr_ret (gd_rc 77)) = 0 := by decide +kernel
theorem gk_cl77 : gr_cls (gd_rc 77) = 9 := by decide +kernel
theorem gk_n11_77 : Nat.beq (gr_cls (gd_rc 77)) 11 = false := by decide +kernel
theorem gk_n10_77 : Nat.beq (gr_cls (gd_rc 77)) 10 = false := by decide +kernel
theorem gk_n12_77 : Nat.beq (gr_cls (gd_rc 77)) 12 = false := by decide +kernel
theorem gk_nt77 : (Nat.beq (gr_cls (gd_rc 77)) 11 || Nat.beq (gr_cls (gd_rc 77)) 12) = false := by decide +kernel
theorem gk_b12_77 : Nat.beq (gr_bk (gd_rc 77)) 12 = false := by decide +kernel
theorem gk_bk77 : (bif Nat.beq (gr_bk (gd_rc 77)) 12 then 12 else 11) = 11 := by decide +kernel
theorem gk_nc78 : Nat.beq 78 gd_mCode = false := by decide +kernel
theorem gk_ml78 : gr_ml (gd_rc 78) = 3 := by decide +kernel
theorem gk_ln78 : gr_lng (gd_rc 78) = [] := by decide +kernel
theorem gk_rk78 : gd_rk (gr_ret (gd_rc 78)) = 0 := by decide +kernel
theorem gk_cl78 : gr_cls (gd_rc 78) = 9 := by decide +kernel
theorem gk_n11_78 : Nat.beq (gr_cls (gd_rc 78)) 11 = false := by decide +kernel
theorem gk_n10_78 : Nat.beq (gr_cls (gd_rc 78)) 10 = false := by decide +kernel
theorem gk_n12_78 : Nat.beq (gr_cls (gd_rc 78)) 12 = false := by decide +kernel
theorem gk_nt78 : (Nat.beq (gr_cls (gd_rc 78)) 11 || Nat.beq (gr_cls (gd_rc 78)) 12) = false := by decide +kernel
theorem gk_b12_78 : Nat.beq (gr_bk (gd_rc 78)) 12 = false := by decide +kernel
theorem gk_bk78 : (bif Nat.beq (gr_bk (gd_rc 78)) 12 then 12 else 11) = 11 := by decide +kernel
theorem gk_nc79 : Nat.beq 79 gd_mCode = false := by decide +kernel
theorem gk_ml79 : gr_ml (gd_rc 79) = 3 := by decide +kernel
theorem gk_ln79 : gr_lng (gd_rc 79) = [] := by decide +kernel
theorem gk_rk79 : gd_rk (gr_ret (gd_rc 79)) = 1 := by decide +kernel
theorem gk_cl79 : gr_cls (gd_rc 79) = 9 := by decide +kernel
theorem gk_n11_79 : Nat.beq (gr_cls (gd_rc 79)) 11 = false := by decide +kernel
theorem gk_n10_79 : Nat.beq (gr_cls (gd_rc 79)) 10 = false := by decide +kernel
theorem gk_n12_79 : Nat.beq (gr_cls (gd_rc 79)) 12 = false := by decide +kernel
theorem gk_nt79 : (Nat.beq (gr_cls (gd_rc 79)) 11 || Nat.beq (gr_cls (gd_rc 79)) 12) = false := by decide +kernel
theorem gk_b12_79 : Nat.beq (gr_bk (gd_rc 79)) 12 = false := by decide +kernel
theorem gk_bk79 : (bif Nat.beq (gr_bk (gd_rc 79)) 12 then 12 else 11) = 11 := by decide +kernel
theorem gk_nc80 : Nat.beq 80 gd_mCode = false := by decide +kernel
theorem gk_ml80 : gr_ml (gd_rc 80) = 2 := by decide +kernel
theorem gk_ln80 : gr_lng (gd_rc 80) = [] := by decide +kernel
theorem gk_rk80 : gd_rk (gr_ret (gd_rc 80)) = 0 := by decide +kernel
theorem gk_cl80 : gr_cls (gd_rc 80) = 9 := by decide +kernel
theorem gk_n11_80 : Nat.beq (gr_cls (gd_rc 80)) 11 = false := by decide +kernel
theorem gk_n10_80 : Nat.beq (gr_cls (gd_rc 80)) 10 = false := by decide +kernel
theorem gk_n12_80 : Nat.beq (gr_cls (gd_rc 80)) 12 = false := by decide +kernel
theorem gk_nt80 : (Nat.beq (gr_cls (gd_rc 80)) 11 || Nat.beq (gr_cls (gd_rc 80)) 12) = false := by decide +kernel
theorem gk_b12_80 : Nat.beq (gr_bk (gd_rc 80)) 12 = false := by decide +kernel
theorem gk_bk80 : (bif Nat.beq (gr_bk (gd_rc 80)) 12 then 12 else 11) = 11 := by decide +kernel
theorem gk_nc81 : Nat.beq 81 gd_mCode = false := by decide +kernel
theorem gk_ml81 : gr_ml (gd_rc 81) = 2 := by decide +kernel
theorem gk_ln81 : gr_lng (gd_rc 81) = [] := by decide +kernel
theorem gk_rk81 : gd_rk (gr_ret (gd_rc 81)) = 0 := by decide +kernel
theorem gk_cl81 : gr_cls (gd_rc 81) = 9 := by decide +kernel
theorem gk_n11_81 : Nat.beq (gr_cls (gd_rc 81)) 11 = false := by decide +kernel
theorem gk_n10_81 : Nat.beq (gr_cls (gd_rc 81)) 10 = false := by decide +kernel
theorem gk_n12_81 : Nat.beq (gr_cls (gd_rc 81)) 12 = false := by decide +kernel
theorem gk_nt81 : (Nat.beq (gr_cls (gd_rc 81)) 11 || Nat.beq (gr_cls (gd_rc 81)) 12) = false := by decide +kernel
theorem gk_b12_81 : Nat.beq (gr_bk (gd_rc 81)) 12 = false := by decide +kernel
theorem gk_bk81 : (bif Nat.beq (gr_bk (gd_rc 81)) 12 then 12 else 11) = 11 := by decide +kernel
theorem gk_nc82 : Nat.beq 82 gd_mCode = true := by decide +kernel
theorem gk_ml82 : gr_ml (gd_rc 82) = 3 := by decide +kernel
theorem gk_ln82 : gr_lng (gd_rc 82) = [] := by decide +kernel
theorem gk_rk82 : gd_rk (gr_ret (gd_rc 82)) = 1 := by decide +kernel
theorem gk_cl82 : gr_cls (gd_rc 82) = 9 := by decide +kernel
theorem gk_n11_82 : Nat.beq (gr_cls (gd_rc 82)) 11 = false := by decide +kernel
theorem gk_n10_82 : Nat.beq (gr_cls (gd_rc 82)) 10 = false := by decide +kernel
theorem gk_n12_82 : Nat.beq (gr_cls (gd_rc 82)) 12 = false := by decide +kernel
theorem gk_nt82 : (Nat.beq (gr_cls (gd_rc 82)) 11 || Nat.beq (gr_cls (gd_rc 82)) 12) = false := by decide +kernel
theorem gk_b12_82 : Nat.beq (gr_bk (gd_rc 82)) 12 = false := by decide +kernel
theorem gk_bk82 : (bif Nat.beq (gr_bk (gd_rc 82)) 12 then 12 else 11) = 11 := by decide +kernel
theorem gk_nc83 : Nat.beq 83 gd_mCode = false := by decide +kernel
theorem gk_ml83 : gr_ml (gd_rc 83) = 2 := by decide +kernel
theorem gk_ln83 : gr_lng (gd_rc 83) = [] := by decide +kernel
theorem gk_rk83 : gd_rk (gr_ret (gd_rc 83)) = 1 := by decide +kernel
theorem gk_cl83 : gr_cls (gd_rc 83) = 6 := by decide +kernel
theorem gk_n11_83 : Nat.beq (gr_cls (gd_rc 83)) 11 = false := by decide +kernel
theorem gk_n10_83 : Nat.beq (gr_cls (gd_rc 83)) 10 = false := by decide +kernel
theorem gk_n12_83 : Nat.beq (gr_cls (gd_rc 83)) 12 = false := by decide +kernel
theorem gk_nt83 : (Nat.beq (gr_cls (gd_rc 83)) 11 || Nat.beq (gr_cls (gd_rc 83)) 12) = false := by decide +kernel
theorem gk_b12_83 : Nat.beq (gr_bk (gd_rc 83)) 12 = false := by decide +kernel
theorem gk_bk83 : (bif Nat.beq (gr_bk (gd_rc 83)) 12 then 12 else 11) = 11 := by decide +kernel
theorem gk_nc84 : Nat.beq 84 gd_mCode = false := by decide +kernel
theorem gk_ml84 : gr_ml (gd_rc 84) = 2 := by decide +kernel
theorem gk_ln84 : gr_lng (gd_rc 84) = [] := by decide +kernel
theorem gk_rk84 : gd_rk (gr_ret (gd_rc 84)) = 1 := by decide +kernel
theorem gk_cl84 : gr_cls (gd_rc 84) = 9 := by decide +kernel
theorem gk_n11_84 : Nat.beq (gr_cls (gd_rc 84)) 11 = false := by decide +kernel
theorem gk_n10_84 : Nat.beq (gr_cls (gd_rc 84)) 10 = false := by decide +kernel
theorem gk_n12_84 : Nat.beq (gr_cls (gd_rc 84)) 12 = false := by decide +kernel
theorem gk_nt84 : (Nat.beq (gr_cls (gd_rc 84)) 11 || Nat.beq (gr_cls (gd_rc 84)) 12) = false := by decide +kernel
theorem gk_b12_84 : Nat.beq (gr_bk (gd_rc 84)) 12 = false := by decide +kernel
theorem gk_bk84 : (bif Nat.beq (gr_bk (gd_rc 84)) 12 then 12 else 11) = 11 := by decide +kernel
theorem gk_nc85 : Nat.beq 85 gd_mCode = false := by decide +kernel
theorem gk_ml85 : gr_ml (gd_rc 85) = 2 := by decide +kernel
theorem gk_ln85 : gr_lng (gd_rc 85) = [] := by decide +kernel
theorem gk_rk85 : gd_rk (gr_ret (gd_rc 85)) = 4 := by decide +kernel
theorem gk_cl85 : gr_cls (gd_rc 85) = 1 := by decide +kernel
theorem gk_n11_85 : Nat.beq (gr_cls (gd_rc 85)) 11 = false := by decide +kernel
theorem gk_n10_85 : Nat.beq (gr_cls (gd_rc 85)) 10 = false := by decide +kernel
theorem gk_n12_85 : Nat.beq (gr_cls (gd_rc 85)) 12 = false := by decide +kernel
theorem gk_nt85 : (Nat.beq (gr_cls (gd_rc 85)) 11 || Nat.beq (gr_cls (gd_rc 85)) 12) = false := by decide +kernel
theorem gk_b12_85 : Nat.beq (gr_bk (gd_rc 85)) 12 = false := by decide +kernel
theorem gk_bk85 : (bif Nat.beq (gr_bk (gd_rc 85)) 12 then 12 else 11) = 11 := by decide +kernel
theorem gk_nc86 : Nat.beq 86 gd_mCode = false := by decide +kernel
theorem gk_ml86 : gr_ml (gd_rc 86) = 4 := by decide +kernel
theorem gk_ln86 : gr_lng (gd_rc 86) = [] := by decide +kernel
theorem gk_rk86 : gd_rk (gr_ret (gd_rc 86)) = 1 := by decide +kernel
theorem gk_cl86 : gr_cls (gd_rc 86) = 1 := by decide +kernel
theorem gk_n11_86 : Nat.beq (gr_cls (gd_rc 86)) 11 = false := by decide +kernel
theorem gk_n10_86 : Nat.beq (gr_cls (gd_rc 86)) 10 = false := by decide +kernel
theorem gk_n12_86 : Nat.beq (gr_cls (gd_rc 86)) 12 = false := by decide +kernel
theorem gk_nt86 : (Nat.beq (gr_cls (gd_rc 86)) 11 || Nat.beq (gr_cls (gd_rc 86)) 12) = false := by decide +kernel
theorem gk_b12_86 : Nat.beq (gr_bk (gd_rc 86)) 12 = false := by decide +kernel
theorem gk_bk86 : (bif Nat.beq (gr_bk (gd_rc 86)) 12 then 12 else 11) = 11 := by decide +kernel
theorem gk_nc87 : Nat.beq 87 gd_mCode = false := by decide +kernel
theorem gk_ml87 : gr_ml (gd_rc 87) = 3 := by decide +kernel
theorem gk_ln87 : gr_lng (gd_rc 87) = [] := by decide +kernel
theorem gk_rk87 : gd_rk (gr_ret (gd_rc 87)) = 1 := by decide +kernel
theorem gk_cl87 : gr_cls (gd_rc 87) = 6 := by decide +kernel
theorem gk_n11_87 : Nat.beq (gr_cls (gd_rc 87)) 11 = false := by decide +kernel
theorem gk_n10_87 : Nat.beq (gr_cls (gd_rc 87)) 10 = false := by decide +kernel
theorem gk_n12_87 : Nat.beq (gr_cls (gd_rc 87)) 12 = false := by decide +kernel
theorem gk_nt87 : (Nat.beq (gr_cls (gd_rc 87)) 11 || Nat.beq (gr_cls (gd_rc 87)) 12) = false := by decide +kernel
theorem gk_b12_87 : Nat.beq (gr_bk (gd_rc 87)) 12 = false := by decide +kernel
theorem gk_bk87 : (bif Nat.beq (gr_bk (gd_rc 87)) 12 then 12 else 11) = 11 := by decide +kernel
theorem gk_nc88 : Nat.beq 88 gd_mCode = false := by decide +kernel
theorem gk_ml88 : gr_ml (gd_rc 88) = 5 := by decide +kernel
theorem gk_ln88 : gr_lng (gd_rc 88) = [] := by decide +kernel
theorem gk_rk88 : gd_rk (gr_ret (gd_rc 88)) = 1 := by decide +kernel
theorem gk_cl88 : gr_cls (gd_rc 88) = 9 := by decide +kernel
theorem gk_n11_88 : Nat.beq (gr_cls (gd_rc 88)) 11 = false := by decide +kernel
theorem gk_n10_88 : Nat.beq (gr_cls (gd_rc 88)) 10 = false := by decide +kernel
theorem gk_n12_88 : Nat.beq (gr_cls (gd_rc 88)) 12 = false := by decide +kernel
theorem gk_nt88 : (Nat.beq (gr_cls (gd_rc 88)) 11 || Nat.beq (gr_cls (gd_rc 88)) 12) = false := by decide +kernel
theorem gk_b12_88 : Nat.beq (gr_bk (gd_rc 88)) 12 = false := by decide +kernel
theorem gk_bk88 : (bif Nat.beq (gr_bk (gd_rc 88)) 12 then 12 else 11) = 11 := by decide +kernel
theorem gk_nc89 : Nat.beq 89 gd_mCode = false := by decide +kernel
theorem gk_ml89 : gr_ml (gd_rc 89) = 1 := by decide +kernel
theorem gk_ln89 : gr_lng (gd_rc 89) = [] := by decide +kernel
theorem gk_rk89 : gd_rk (gr_ret (gd_rc 89)) = 4 := by decide +kernel
theorem gk_cl89 : gr_cls (gd_rc 89) = 6 := by decide +kernel
theorem gk_n11_89 : Nat.beq (gr_cls (gd_rc 89)) 11 = false := by decide +kernel
theorem gk_n10_89 : Nat.beq (gr_cls (gd_rc 89)) 10 = false := by decide +kernel
theorem gk_n12_89 : Nat.beq (gr_cls (gd_rc 89)) 12 = false := by decide +kernel
theorem gk_nt89 : (Nat.beq (gr_cls (gd_rc 89)) 11 || Nat.beq (gr_cls (gd_rc 89)) 12) = false := by decide +kernel
theorem gk_b12_89 : Nat.beq (gr_bk (gd_rc 89)) 12 = false := by decide +kernel
theorem gk_bk89 : (bif Nat.beq (gr_bk (gd_rc 89)) 12 then 12 else 11) = 11 := by decide +kernel
theorem gk_nc90 : Nat.beq 90 gd_mCode = false := by decide +kernel
theorem gk_ml90 : gr_ml (gd_rc 90) = 2 := by decide +kernel
theorem gk_ln90 : gr_lng (gd_rc 90) = [] := by decide +kernel
theorem gk_rk90 : gd_rk (gr_ret (gd_rc 90)) = 1 := by decide +kernel
theorem gk_cl90 : gr_cls (gd_rc 90) = 6 := by decide +kernel
theorem gk_n11_90 : Nat.beq (gr_cls (gd_rc 90)) 11 = false := by decide +kernel
theorem gk_n10_90 : Nat.beq (gr_cls (gd_rc 90)) 10 = false := by decide +kernel
theorem gk_n12_90 : Nat.beq (gr_cls (gd_rc 90)) 12 = false := by decide +kernel
theorem gk_nt90 : (Nat.beq (gr_cls (gd_rc 90)) 11 || Nat.beq (gr_cls (gd_rc 90)) 12) = false := by decide +kernel
theorem gk_b12_90 : Nat.beq (gr_bk (gd_rc 90)) 12 = false := by decide +kernel
theorem gk_bk90 : (bif Nat.beq (gr_bk (gd_rc 90)) 12 then 12 else 11) = 11 := by decide +kernel
theorem gk_nc91 : Nat.beq 91 gd_mCode = false := by decide +kernel
theorem gk_ml91 : gr_ml (gd_rc 91) = 3 := by decide +kernel
theorem gk_ln91 : gr_lng (gd_rc 91) = [] := by decide +kernel
theorem gk_rk91 : gd_rk (gr_ret (gd_rc 91)) = 1 := by decide +kernel
theorem gk_cl91 : gr_cls (gd_rc 91) = 9 := by decide +kernel
theorem gk_n11_91 : Nat.beq (gr_cls (gd_rc 91)) 11 = false := by decide +kernel
theorem gk_n10_91 : Nat.beq (gr_cls (gd_rc 91)) 10 = false := by decide +kernel
theorem gk_n12_91 : Nat.beq (gr_cls (gd_rc 91)) 12 = false := by decide +kernel
theorem gk_nt91 : (Nat.beq (gr_cls (gd_rc 91)) 11 || Nat.beq (gr_cls (gd_rc 91)) 12) = false := by decide +kernel
theorem gk_b12_91 : Nat.beq (gr_bk (gd_rc 91)) 12 = false := by decide +kernel
theorem gk_bk91 : (bif Nat.beq (gr_bk (gd_rc 91)) 12 then 12 else 11) = 11 := by decide +kernel
theorem gk_nc92 : Nat.beq 92 gd_mCode = false := by decide +kernel
theorem gk_ml92 : gr_ml (gd_rc 92) = 2 := by decide +kernel
theorem gk_ln92 : gr_lng (gd_rc 92) = [] := by decide +kernel
theorem gk_rk92 : gd_rk (gr_ret (gd_rc 92)) = 4 := by decide +kernel
theorem gk_cl92 : gr_cls (gd_rc 92) = 6 := by decide +kernel
theorem gk_n11_92 : Nat.beq (gr_cls (gd_rc 92)) 11 = false := by decide +kernel
theorem gk_n10_92 : Nat.beq (gr_cls (gd_rc 92)) 10 = false := by decide +kernel
theorem gk_n12_92 : Nat.beq (gr_cls (gd_rc 92)) 12 = false := by decide +kernel
theorem gk_nt92 : (Nat.beq (gr_cls (gd_rc 92)) 11 || Nat.beq (gr_cls (gd_rc 92)) 12) = false := by decide +kernel
theorem gk_b12_92 : Nat.beq (gr_bk (gd_rc 92)) 12 = false := by decide +kernel
theorem gk_bk92 : (bif Nat.beq (gr_bk (gd_rc 92)) 12 then 12 else 11) = 11 := by decide +kernel
theorem gk_nc93 : Nat.beq 93 gd_mCode = false := by decide +kernel
theorem gk_ml93 : gr_ml (gd_rc 93) = 3 := by decide +kernel
theorem gk_ln93 : gr_lng (gd_rc 93) = [] := by decide +kernel
theorem gk_rk93 : gd_rk (gr_ret (gd_rc 93)) = 3 := by decide +kernel
theorem gk_cl93 : gr_cls (gd_rc 93) = 6 := by decide +kernel
theorem gk_n11_93 : Nat.beq (gr_cls (gd_rc 93)) 11 = false := by decide +kernel
theorem gk_n10_93 : Nat.beq (gr_cls (gd_rc 93)) 10 = false := by decide +kernel
theorem gk_n12_93 : Nat.beq (gr_cls (gd_rc 93)) 12 = false := by decide +kernel
theorem gk_nt93 : (Nat.beq (gr_cls (gd_rc 93)) 11 || Nat.beq (gr_cls (gd_rc 93)) 12) = false := by decide +kernel
theorem gk_b12_93 : Nat.beq (gr_bk (gd_rc 93)) 12 = false := by decide +kernel
theorem gk_bk93 : (bif Nat.beq (gr_bk (gd_rc 93)) 12 then 12 else 11) = 11 := by decide +kernel
theorem gk_nc94 : Nat.beq 94 gd_mCode = false := by decide +kernel
theorem gk_ml94 : gr_ml (gd_rc 94) = 6 := by decide +kernel
theorem gk_ln94 : gr_lng (gd_rc 94) = [] := by decide +kernel
theorem gk_rk94 : gd_rk (gr_ret (gd_rc 94)) = 1 := by decide +kernel
theorem gk_cl94 : gr_cls (gd_rc 94) = 6 := by decide +kernel
theorem gk_n11_94 : Nat.beq (gr_cls (gd_rc 94)) 11 = false := by decide +kernel
theorem gk_n10_94 : Nat.beq (gr_cls (gd_rc 94)) 10 = false := by decide +kernel
theorem gk_n12_94 : Nat.beq (gr_cls (gd_rc 94)) 12 = false := by decide +kernel
theorem gk_nt94 : (Nat.beq (gr_cls (gd_rc 94)) 11 || Nat.beq (gr_cls (gd_rc 94)) 12) = false := by decide +kernel
theorem gk_b12_94 : Nat.beq (gr_bk (gd_rc 94)) 12 = false := by decide +kernel
theorem gk_bk94 : (bif Nat.beq (gr_bk (gd_rc 94)) 12 then 12 else 11) = 11 := by decide +kernel
theorem gk_nc95 : Nat.beq 95 gd_mCode = false := by decide +kernel
theorem gk_ml95 : gr_ml (gd_rc 95) = 2 := by decide +kernel
theorem gk_ln95 : gr_lng (gd_rc 95) = [] := by decide +kernel
theorem gk_rk95 : gd_rk (gr_ret (gd_rc 95)) = 0 := by decide +kernel
theorem gk_cl95 : gr_cls (gd_rc 95) = 4 := by decide +kernel
theorem gk_n11_95 : Nat.beq (gr_cls (gd_rc 95)) 11 = false := by decide +kernel
theorem gk_n10_95 : Nat.beq (gr_cls (gd_rc 95)) 10 = false := by decide +kernel
theorem gk_n12_95 : Nat.beq (gr_cls (gd_rc 95)) 12 = false := by decide +kernel
theorem gk_nt95 : (Nat.beq (gr_cls (gd_rc 95)) 11 || Nat.beq (gr_cls (gd_rc 95)) 12) = false := by decide +kernel
theorem gk_b12_95 : Nat.beq (gr_bk (gd_rc 95)) 12 = false := by decide +kernel
theorem gk_bk95 : (bif Nat.beq (gr_bk (gd_rc 95)) 12 then 12 else 11) = 11 := by decide +kernel
theorem gk_nc96 : Nat.beq 96 gd_mCode = false := by decide +kernel
theorem gk_ml96 : gr_ml (gd_rc 96) = 5 := by decide +kernel
theorem gk_ln96 : gr_lng (gd_rc 96) = [] := by decide +kernel
theorem gk_rk96 : gd_rk (gr_ret (gd_rc 96)) = 1 := by decide +kernel
theorem gk_cl96 : gr_cls (gd_rc 96) = 6 := by decide +kernel
theorem gk_n11_96 : Nat.beq (gr_cls (gd_rc 96)) 11 = false := by decide +kernel
theorem gk_n10_96 : Nat.beq (gr_cls (gd_rc 96)) 10 = false := by decide +kernel
theorem gk_n12_96 : Nat.beq (gr_cls (gd_rc 96)) 12 = false := by decide +kernel
theorem gk_nt96 : (Nat.beq (gr_cls (gd_rc 96)) 11 || Nat.beq (gr_cls (gd_rc 96)) 12) = false := by decide +kernel
theorem gk_b12_96 : Nat.beq (gr_bk (gd_rc 96)) 12 = false := by decide +kernel
theorem gk_bk96 : (bif Nat.beq (gr_bk (gd_rc 96)) 12 then 12 else 11) = 11 := by decide +kernel
theorem gk_nc97 : Nat.beq 97 gd_mCode = false := by decide +kernel
theorem gk_ml97 : gr_ml (gd_rc 97) = 2 := by decide +kernel
theorem gk_ln97 : gr_lng (gd_rc 97) = [] := by decide +kernel
theorem gk_rk97 : gd_rk (gr_ret (gd_rc 97)) = 4 := by decide +kernel
theorem gk_cl97 : gr_cls (gd_rc 97) = 9 := by decide +kernel
theorem gk_n11_97 : Nat.beq (gr_cls (gd_rc 97)) 11 = false := by decide +kernel
theorem gk_n10_97 : Nat.beq (gr_cls (gd_rc 97)) 10 = false := by decide +kernel
theorem gk_n12_97 : Nat.beq (gr_cls (gd_rc 97)) 12 = false := by decide +kernel
theorem gk_nt97 : (Nat.beq (gr_cls (gd_rc 97)) 11 || Nat.beq (gr_cls (gd_rc 97)) 12) = false := by decide +kernel
theorem gk_b12_97 : Nat.beq (gr_bk (gd_rc 97)) 12 = false := by decide +kernel
theorem gk_bk97 : (bif Nat.beq (gr_bk (gd_rc 97)) 12 then 12 else 11) = 11 := by decide +kernel
theorem gk_nc98 : Nat.beq 98 gd_mCode = false := by decide +kernel
theorem gk_ml98 : gr_ml (gd_rc 98) = 3 := by decide +kernel
theorem gk_ln98 : gr_lng (gd_rc 98) = [] := by decide +kernel
theorem gk_rk98 : gd_rk (gr_ret (gd_rc 98)) = 4 := by decide +kernel
theorem gk_cl98 : gr_cls (gd_rc 98) = 9 := by decide +kernel
theorem gk_n11_98 : Nat.beq (gr_cls (gd_rc 98)) 11 = false := by decide +kernel
theorem gk_n10_98 : Nat.beq (gr_cls (gd_rc 98)) 10 = false := by decide +kernel
theorem gk_n12_98 : Nat.beq (gr_cls (gd_rc 98)) 12 = false := by decide +kernel
theorem gk_nt98 : (Nat.beq (gr_cls (gd_rc 98)) 11 || Nat.beq (gr_cls (gd_rc 98)) 12) = false := by decide +kernel
theorem gk_b12_98 : Nat.beq (gr_bk (gd_rc 98)) 12 = false := by decide +kernel
theorem gk_bk98 : (bif Nat.beq (gr_bk (gd_rc 98)) 12 then 12 else 11) = 11 := by decide +kernel
theorem gk_nc99 : Nat.beq 99 gd_mCode = false := by decide +kernel
theorem gk_ml99 : gr_ml (gd_rc 99) = 6 := by decide +kernel
theorem gk_ln99 : gr_lng (gd_rc 99) = [] := by decide +kernel
theorem gk_rk99 : gd_rk (gr_ret (gd_rc 99)) = 1 := by decide +kernel
theorem gk_cl99 : gr_cls (gd_rc 99) = 9 := by decide +kernel
theorem gk_n11_99 : Nat.beq (gr_cls (gd_rc 99)) 11 = false := by decide +kernel
theorem gk_n10_99 : Nat.beq (gr_cls (gd_rc 99)) 10 = false := by decide +kernel
theorem gk_n12_99 : Nat.beq (gr_cls (gd_rc 99)) 12 = false := by decide +kernel
theorem gk_nt99 : (Nat.beq (gr_cls (gd_rc 99)) 11 || Nat.beq (gr_cls (gd_rc 99)) 12) = false := by decide +kernel
theorem gk_b12_99 : Nat.beq (gr_bk (gd_rc 99)) 12 = false := by decide +kernel
theorem gk_bk99 : (bif Nat.beq (gr_bk (gd_rc 99)) 12 then 12 else 11) = 11 := by decide +kernel
theorem gk_nc100 : Nat.beq 100 gd_mCode = false := by decide +kernel
theorem gk_ml100 : gr_ml (gd_rc 100) = 1 := by decide +kernel
theorem gk_ln100 : gr_lng (gd_rc 100) = [] := by decide +kernel
theorem gk_rk100 : gd_rk (gr_ret (gd_rc 100)) = 4 := by decide +kernel
theorem gk_cl100 : gr_cls (gd_rc 100) = 4 := by decide +kernel
theorem gk_n11_100 : Nat.beq (gr_cls (gd_rc 100)) 11 = false := by decide +kernel
theorem gk_n10_100 : Nat.beq (gr_cls (gd_rc 100)) 10 = false := by decide +kernel
theorem gk_n12_100 : Nat.beq (gr_cls (gd_rc 100)) 12 = false := by decide +kernel
theorem gk_nt100 : (Nat.beq (gr_cls (gd_rc 100)) 11 || Nat.beq (gr_cls (gd_rc 100)) 12) = false := by decide +kernel
theorem gk_b12_100 : Nat.beq (gr_bk (gd_rc 100)) 12 = false := by decide +kernel
theorem gk_bk100 : (bif Nat.beq (gr_bk (gd_rc 100)) 12 then 12 else 11) = 11 := by decide +kernel
theorem gk_nc101 : Nat.beq 101 gd_mCode = false := by decide +kernel
theorem gk_ml101 : gr_ml (gd_rc 101) = 2 := by decide +kernel
theorem gk_ln101 : gr_lng (gd_rc 101) = [] := by decide +kernel
theorem gk_rk101 : gd_rk (gr_ret (gd_rc 101)) = 0 := by decide +kernel
theorem gk_cl101 : gr_cls (gd_rc 101) = 4 := by decide +kernel
theorem gk_n11_101 : Nat.beq (gr_cls (gd_rc 101)) 11 = false := by decide +kernel
theorem gk_n10_101 : Nat.beq (gr_cls (gd_rc 101)) 10 = false := by decide +kernel
theorem gk_n12_101 : Nat.beq (gr_cls (gd_rc 101)) 12 = false := by decide +kernel
theorem gk_nt101 : (Nat.beq (gr_cls (gd_rc 101)) 11 || Nat.beq (gr_cls (gd_rc 101)) 12) = false := by decide +kernel
theorem gk_b12_101 : Nat.beq (gr_bk (gd_rc 101)) 12 = false := by decide +kernel
theorem gk_bk101 : (bif Nat.beq (gr_bk (gd_rc 101)) 12 then 12 else 11) = 11 := by decide +kernel
theorem gk_nc102 : Nat.beq 102 gd_mCode = false := by decide +kernel
theorem gk_ml102 : gr_ml (gd_rc 102) = 5 := by decide +kernel
theorem gk_ln102 : gr_lng (gd_rc 102) = [] := by decide +kernel
theorem gk_rk102 : gd_rk (gr_ret (gd_rc 102)) = 1 := by decide +kernel
theorem gk_cl102 : gr_cls (gd_rc 102) = 6 := by decide +kernel
theorem gk_n11_102 : Nat.beq (gr_cls (gd_rc 102)) 11 = false := by decide +kernel
theorem gk_n10_102 : Nat.beq (gr_cls (gd_rc 102)) 10 = false := by decide +kernel
theorem gk_n12_102 : Nat.beq (gr_cls (gd_rc 102)) 12 = false := by decide +kernel
theorem gk_nt102 : (Nat.beq (gr_cls (gd_rc 102)) 11 || Nat.beq (gr_cls (gd_rc 102)) 12) = false := by decide +kernel
theorem gk_b12_102 : Nat.beq (gr_bk (gd_rc 102)) 12 = false := by decide +kernel
theorem gk_bk102 : (bif Nat.beq (gr_bk (gd_rc 102)) 12 then 12 else 11) = 11 := by decide +kernel
theorem gk_nc103 : Nat.beq 103 gd_mCode = false := by decide +kernel
theorem gk_ml103 : gr_ml (gd_rc 103) = 2 := by decide +kernel
theorem gk_ln103 : gr_lng (gd_rc 103) = [] := by decide +kernel
theorem gk_rk103 : gd_rk (gr_ret (gd_rc 103)) = 4 := by decide +kernel
theorem gk_cl103 : gr_cls (gd_rc 103) = 9 := by decide +kernel
theorem gk_n11_103 : Nat.beq (gr_cls (gd_rc 103)) 11 = false := by decide +kernel
theorem gk_n10_103 : Nat.beq (gr_cls (gd_rc 103)) 10 = false := by decide +kernel
theorem gk_n12_103 : Nat.beq (gr_cls (gd_rc 103)) 12 = false := by decide +kernel
theorem gk_nt103 : (Nat.beq (gr_cls (gd_rc 103)) 11 || Nat.beq (gr_cls (gd_rc 103)) 12) = false := by decide +kernel
theorem gk_b12_103 : Nat.beq (gr_bk (gd_rc 103)) 12 = false := by decide +kernel
theorem gk_bk103 : (bif Nat.beq (gr_bk (gd_rc 103)) 12 then 12 else 11) = 11 := by decide +kernel
theorem gk_nc104 : Nat.beq 104 gd_mCode = false := by decide +kernel
theorem gk_ml104 : gr_ml (gd_rc 104) = 5 := by decide +kernel
theorem gk_ln104 : gr_lng (gd_rc 104) = [] := by decide +kernel
theorem gk_rk104 : gd_rk (gr_ret (gd_rc 104)) = 1 := by decide +kernel
theorem gk_cl104 : gr_cls (gd_rc 104) = 9 := by decide +kernel
theorem gk_n11_104 : Nat.beq (gr_cls (gd_rc 104)) 11 = false := by decide +kernel
theorem gk_n10_104 : Nat.beq (gr_cls (gd_rc 104)) 10 = false := by decide +kernel
theorem gk_n12_104 : Nat.beq (gr_cls (gd_rc 104)) 12 = false := by decide +kernel
theorem gk_nt104 : (Nat.beq (gr_cls (gd_rc 104)) 11 || Nat.beq (gr_cls (gd_rc 104)) 12) = false := by decide +kernel
theorem gk_b12_104 : Nat.beq (gr_bk (gd_rc 104)) 12 = false := by decide +kernel
theorem gk_bk104 : (bif Nat.beq (gr_bk (gd_rc 104)) 12 then 12 else 11) = 11 := by decide +kernel
theorem gk_nc105 : Nat.beq 105 gd_mCode = false := by decide +kernel
theorem gk_ml105 : gr_ml (gd_rc 105) = 2 := by decide +kernel
theorem gk_ln105 : gr_lng (gd_rc 105) = [] := by decide +kernel
theorem gk_rk105 : gd_rk (gr_ret (gd_rc 105)) = 4 := by decide +kernel
theorem gk_cl105 : gr_cls (gd_rc 105) = 6 := by decide +kernel
theorem gk_n11_105 : Nat.beq (gr_cls (gd_rc 105)) 11 = false := by decide +kernel
theorem gk_n10_105 : Nat.beq (gr_cls (gd_rc 105)) 10 = false := by decide +kernel
theorem gk_n12_105 : Nat.beq (gr_cls (gd_rc 105)) 12 = false := by decide +kernel
theorem gk_nt105 : (Nat.beq (gr_cls (gd_rc 105)) 11 || Nat.beq (gr_cls (gd_rc 105)) 12) = false := by decide +kernel
theorem gk_b12_105 : Nat.beq (gr_bk (gd_rc 105)) 12 = false := by decide +kernel
theorem gk_bk105 : (bif Nat.beq (gr_bk (gd_rc 105)) 12 then 12 else 11) = 11 := by decide +kernel
theorem gk_nc106 : Nat.beq 106 gd_mCode = false := by decide +kernel
theorem gk_ml106 : gr_ml (gd_rc 106) = 2 := by decide +kernel
theorem gk_ln106 : gr_lng (gd_rc 106) = [] := by decide +kernel
theorem gk_rk106 : gd_rk (gr_ret (gd_rc 106)) = 4 := by decide +kernel
theorem gk_cl106 : gr_cls (gd_rc 106) = 4 := by decide +kernel
theorem gk_n11_106 : Nat.beq (gr_cls (gd_rc 106)) 11 = false := by decide +kernel
theorem gk_n10_106 : Nat.beq (gr_cls (gd_rc 106)) 10 = false := by decide +kernel
theorem gk_n12_106 : Nat.beq (gr_cls (gd_rc 106)) 12 = false := by decide +kernel
theorem gk_nt106 : (Nat.beq (gr_cls (gd_rc 106)) 11 || Nat.beq (gr_cls (gd_rc 106)) 12) = false := by decide +kernel
theorem gk_b12_106 : Nat.beq (gr_bk (gd_rc 106)) 12 = false := by decide +kernel
theorem gk_bk106 : (bif Nat.beq (gr_bk (gd_rc 106)) 12 then 12 else 11) = 11 := by decide +kernel
theorem gk_nc107 : Nat.beq 107 gd_mCode = false := by decide +kernel
theorem gk_ml107 : gr_ml (gd_rc 107) = 7 := by decide +kernel
theorem gk_ln107 : gr_lng (gd_rc 107) = [] := by decide +kernel
theorem gk_rk107 : gd_rk (gr_ret (gd_rc 107)) = 1 := by decide +kernel
theorem gk_cl107 : gr_cls (gd_rc 107) = 4 := by decide +kernel
theorem gk_n11_107 : Nat.beq (gr_cls (gd_rc 107)) 11 = false := by decide +kernel
theorem gk_n10_107 : Nat.beq (gr_cls (gd_rc 107)) 10 = false := by decide +kernel
theorem gk_n12_107 : Nat.beq (gr_cls (gd_rc 107)) 12 = false := by decide +kernel
theorem gk_nt107 : (Nat.beq (gr_cls (gd_rc 107)) 11 || Nat.beq (gr_cls (gd_rc 107)) 12) = false := by decide +kernel
theorem gk_b12_107 : Nat.beq (gr_bk (gd_rc 107)) 12 = false := by decide +kernel
theorem gk_bk107 : (bif Nat.beq (gr_bk (gd_rc 107)) 12 then 12 else 11) = 11 := by decide +kernel
theorem gk_nc108 : Nat.beq 108 gd_mCode = false := by decide +kernel
theorem gk_ml108 : gr_ml (gd_rc 108) = 1 := by decide +kernel
theorem gk_ln108 : gr_lng (gd_rc 108) = [] := by decide +kernel
theorem gk_rk108 : gd_rk (gr_ret (gd_rc 108)) = 1 := by decide +kernel
theorem gk_cl108 : gr_cls (gd_rc 108) = 15 := by decide +kernel
theorem gk_n11_108 : Nat.beq (gr_cls (gd_rc 108)) 11 = false := by decide +kernel
theorem gk_n10_108 : Nat.beq (gr_cls (gd_rc 108)) 10 = false := by decide +kernel
theorem gk_n12_108 : Nat.beq (gr_cls (gd_rc 108)) 12 = false := by decide +kernel
theorem gk_nt108 : (Nat.beq (gr_cls (gd_rc 108)) 11 || Nat.beq (gr_cls (gd_rc 108)) 12) = false := by decide +kernel
theorem gk_b12_108 : Nat.beq (gr_bk (gd_rc 108)) 12 = false := by decide +kernel
theorem gk_bk108 : (bif Nat.beq (gr_bk (gd_rc 108)) 12 then 12 else 11) = 11 := by decide +kernel
theorem gk_nc109 : Nat.beq 109 gd_mCode = false := by decide +kernel
theorem gk_ml109 : gr_ml (gd_rc 109) = 5 := by decide +kernel
theorem gk_ln109 : gr_lng (gd_rc 109) = [] := by decide +kernel
theorem gk_rk109 : gd_rk (gr_ret (gd_rc 109)) = 0 := by decide +kernel
theorem gk_cl109 : gr_cls (gd_rc 109) = 4 := by decide +kernel
theorem gk_n11_109 : Nat.beq (gr_cls (gd_rc 109)) 11 = false := by decide +kernel
theorem gk_n10_109 : Nat.beq (gr_cls (gd_rc 109)) 10 = false := by decide +kernel
theorem gk_n12_109 : Nat.beq (gr_cls (gd_rc 109)) 12 = false := by decide +kernel
theorem gk_nt109 : (Nat.beq (gr_cls (gd_rc 109)) 11 || Nat.beq (gr_cls (gd_rc 109)) 12) = false := by decide +kernel
theorem gk_b12_109 : Nat.beq (gr_bk (gd_rc 109)) 12 = false := by decide +kernel
theorem gk_bk109 : (bif Nat.beq (gr_bk (gd_rc 109)) 12 then 12 else 11) = 11 := by decide +kernel
theorem gk_nc110 : Nat.beq 110 gd_mCode = false := by decide +kernel
theorem gk_ml110 : gr_ml (gd_rc 110) = 6 := by decide +kernel
theorem gk_ln110 : gr_lng (gd_rc 110) = [] := by decide +kernel
theorem gk_rk110 : gd_rk (gr_ret (gd_rc 110)) = 0 := by decide +kernel
theorem gk_cl110 : gr_cls (gd_rc 110) = 4 := by decide +kernel
theorem gk_n11_110 : Nat.beq (gr_cls (gd_rc 110)) 11 = false := by decide +kernel
theorem gk_n10_110 : Nat.beq (gr_cls (gd_rc 110)) 10 = false := by decide +kernel
theorem gk_n12_110 : Nat.beq (gr_cls (gd_rc 110)) 12 = false := by decide +kernel
theorem gk_nt110 : (Nat.beq (gr_cls (gd_rc 110)) 11 || Nat.beq (gr_cls (gd_rc 110)) 12) = false := by decide +kernel
theorem gk_b12_110 : Nat.beq (gr_bk (gd_rc 110)) 12 = false := by decide +kernel
theorem gk_bk110 : (bif Nat.beq (gr_bk (gd_rc 110)) 12 then 12 else 11) = 11 := by decide +kernel
theorem gk_nc111 : Nat.beq 111 gd_mCode = false := by decide +kernel
theorem gk_ml111 : gr_ml (gd_rc 111) = 6 := by decide +kernel
theorem gk_ln111 : gr_lng (gd_rc 111) = [] := by decide +kernel
theorem gk_rk111 : gd_rk (gr_ret (gd_rc 111)) = 1 := by decide +kernel
theorem gk_cl111 : gr_cls (gd_rc 111) = 6 := by decide +kernel
theorem gk_n11_111 : Nat.beq (gr_cls (gd_rc 111)) 11 = false := by decide +kernel
theorem gk_n10_111 : Nat.beq (gr_cls (gd_rc 111)) 10 = false := by decide +kernel
theorem gk_n12_111 : Nat.beq (gr_cls (gd_rc 111)) 12 = false := by decide +kernel
theorem gk_nt111 : (Nat.beq (gr_cls (gd_rc 111)) 11 || Nat.beq (gr_cls (gd_rc 111)) 12) = false := by decide +kernel
theorem gk_b12_111 : Nat.beq (gr_bk (gd_rc 111)) 12 = false := by decide +kernel
theorem gk_bk111 : (bif Nat.beq (gr_bk (gd_rc 111)) 12 then 12 else 11) = 11 := by decide +kernel
theorem gk_nc112 : Nat.beq 112 gd_mCode = false := by decide +kernel
theorem gk_ml112 : gr_ml (gd_rc 112) = 8 := by decide +kernel
theorem gk_ln112 : gr_lng (gd_rc 112) = [] := by decide +kernel
theorem gk_rk112 : gd_rk (gr_ret (gd_rc 112)) = 0 := by decide +kernel
theorem gk_cl112 : gr_cls (gd_rc 112) = 9 := by decide +kernel
theorem gk_n11_112 : Nat.beq (gr_cls (gd_rc 112)) 11 = false := by decide +kernel
theorem gk_n10_112 : Nat.beq (gr_cls (gd_rc 112)) 10 = false := by decide +kernel
theorem gk_n12_112 : Nat.beq (gr_cls (gd_rc 112)) 12 = false := by decide +kernel
theorem gk_nt112 : (Nat.beq (gr_cls (gd_rc 112)) 11 || Nat.beq (gr_cls (gd_rc 112)) 12) = false := by decide +kernel
theorem gk_b12_112 : Nat.beq (gr_bk (gd_rc 112)) 12 = false := by decide +kernel
theorem gk_bk112 : (bif Nat.beq (gr_bk (gd_rc 112)) 12 then 12 else 11) = 11 := by decide +kernel
theorem gk_nc113 : Nat.beq 113 gd_mCode = false := by decide +kernel
theorem gk_ml113 : gr_ml (gd_rc 113) = 8 := by decide +kernel
theorem gk_ln113 : gr_lng (gd_rc 113) = [] := by decide +kernel
theorem gk_rk113 : gd_rk (gr_ret (gd_rc 113)) = 1 := by decide +kernel
theorem gk_cl113 : gr_cls (gd_rc 113) = 9 := by decide +kernel
theorem gk_n11_113 : Nat.beq (gr_cls (gd_rc 113)) 11 = false := by decide +kernel
theorem gk_n10_113 : Nat.beq (gr_cls (gd_rc 113)) 10 = false := by decide +kernel
theorem gk_n12_113 : Nat.beq (gr_cls (gd_rc 113)) 12 = false := by decide +kernel
theorem gk_nt113 : (Nat.beq (gr_cls (gd_rc 113)) 11 || Nat.beq (gr_cls (gd_rc 113)) 12) = false := by decide +kernel
theorem gk_b12_113 : Nat.beq (gr_bk (gd_rc 113)) 12 = false := by decide +kernel
theorem gk_bk113 : (bif Nat.beq (gr_bk (gd_rc 113)) 12 then 12 else 11) = 11 := by decide +kernel
theorem gk_nc114 : Nat.beq 114 gd_mCode = false := by decide +kernel
theorem gk_ml114 : gr_ml (gd_rc 114) = 4 := by decide +kernel
theorem gk_ln114 : gr_lng (gd_rc 114) = [] := by decide +kernel
theorem gk_rk114 : gd_rk (gr_ret (gd_rc 114)) = 1 := by decide +kernel
theorem gk_cl114 : gr_cls (gd_rc 114) = 6 := by decide +kernel
theorem gk_n11_114 : Nat.beq (gr_cls (gd_rc 114)) 11 = false := by decide +kernel
theorem gk_n10_114 : Nat.beq (gr_cls (gd_rc 114)) 10 = false := by decide +kernel
theorem gk_n12_114 : Nat.beq (gr_cls (gd_rc 114)) 12 = false := by decide +kernel
theorem gk_nt114 : (Nat.beq (gr_cls (gd_rc 114)) 11 || Nat.beq (gr_cls (gd_rc 114)) 12) = false := by decide +kernel
theorem gk_b12_114 : Nat.beq (gr_bk (gd_rc 114)) 12 = false := by decide +kernel
theorem gk_bk114 : (bif Nat.beq (gr_bk (gd_rc 114)) 12 then 12 else 11) = 11 := by decide +kernel
theorem gk_nc115 : Nat.beq 115 gd_mCode = false := by decide +kernel
theorem gk_ml115 : gr_ml (gd_rc 115) = 3 := by decide +kernel
theorem gk_ln115 : gr_lng (gd_rc 115) = [] := by decide +kernel
theorem gk_rk115 : gd_rk (gr_ret (gd_rc 115)) = 1 := by decide +kernel
theorem gk_cl115 : gr_cls (gd_rc 115) = 9 := by decide +kernel
theorem gk_n11_115 : Nat.beq (gr_cls (gd_rc 115)) 11 = false := by decide +kernel
theorem gk_n10_115 : Nat.beq (gr_cls (gd_rc 115)) 10 = false := by decide +kernel
theorem gk_n12_115 : Nat.beq (gr_cls (gd_rc 115)) 12 = false := by decide +kernel
theorem gk_nt115 : (Nat.beq (gr_cls (gd_rc 115)) 11 || Nat.beq (gr_cls (gd_rc 115)) 12) = false := by decide +kernel
theorem gk_b12_115 : Nat.beq (gr_bk (gd_rc 115)) 12 = false := by decide +kernel
theorem gk_bk115 : (bif Nat.beq (gr_bk (gd_rc 115)) 12 then 12 else 11) = 11 := by decide +kernel
theorem gk_nc116 : Nat.beq 116 gd_mCode = false := by decide +kernel
theorem gk_ml116 : gr_ml (gd_rc 116) = 2 := by decide +kernel
theorem gk_ln116 : gr_lng (gd_rc 116) = [] := by decide +kernel
theorem gk_rk116 : gd_rk (gr_ret (gd_rc 116)) = 4 := by decide +kernel
theorem gk_cl116 : gr_cls (gd_rc 116) = 4 := by decide +kernel
theorem gk_n11_116 : Nat.beq (gr_cls (gd_rc 116)) 11 = false := by decide +kernel
theorem gk_n10_116 : Nat.beq (gr_cls (gd_rc 116)) 10 = false := by decide +kernel
theorem gk_n12_116 : Nat.beq (gr_cls (gd_rc 116)) 12 = false := by decide +kernel
theorem gk_nt116 : (Nat.beq (gr_cls (gd_rc 116)) 11 || Nat.beq (gr_cls (gd_rc 116)) 12) = false := by decide +kernel
theorem gk_b12_116 : Nat.beq (gr_bk (gd_rc 116)) 12 = false := by decide +kernel
theorem gk_bk116 : (bif Nat.beq (gr_bk (gd_rc 116)) 12 then 12 else 11) = 11 := by decide +kernel
theorem gk_nc117 : Nat.beq 117 gd_mCode = false := by decide +kernel
theorem gk_ml117 : gr_ml (gd_rc 117) = 1 := by decide +kernel
theorem gk_ln117 : gr_lng (gd_rc 117) = [] := by decide +kernel
theorem gk_rk117 : gd_rk (gr_ret (gd_rc 117)) = 1 := by decide +kernel
theorem gk_cl117 : gr_cls (gd_rc 117) = 14 := by decide +kernel
theorem gk_n11_117 : Nat.beq (gr_cls (gd_rc 117)) 11 = false := by decide +kernel
theorem gk_n10_117 : Nat.beq (gr_cls (gd_rc 117)) 10 = false := by decide +kernel
theorem gk_n12_117 : Nat.beq (gr_cls (gd_rc 117)) 12 = false := by decide +kernel
theorem gk_nt117 : (Nat.beq (gr_cls (gd_rc 117)) 11 || Nat.beq (gr_cls (gd_rc 117)) 12) = false := by decide +kernel
theorem gk_b12_117 : Nat.beq (gr_bk (gd_rc 117)) 12 = false := by decide +kernel
theorem gk_bk117 : (bif Nat.beq (gr_bk (gd_rc 117)) 12 then 12 else 11) = 11 := by decide +kernel
theorem gk_nc118 : Nat.beq 118 gd_mCode = false := by decide +kernel
theorem gk_ml118 : gr_ml (gd_rc 118) = 5 := by decide +kernel
theorem gk_ln118 : gr_lng (gd_rc 118) = [] := by decide +kernel
theorem gk_rk118 : gd_rk (gr_ret (gd_rc 118)) = 1 := by decide +kernel
theorem gk_cl118 : gr_cls (gd_rc 118) = 4 := by decide +kernel
theorem gk_n11_118 : Nat.beq (gr_cls (gd_rc 118)) 11 = false := by decide +kernel
theorem gk_n10_118 : Nat.beq (gr_cls (gd_rc 118)) 10 = false := by decide +kernel
theorem gk_n12_118 : Nat.beq (gr_cls (gd_rc 118)) 12 = false := by decide +kernel
theorem gk_nt118 : (Nat.beq (gr_cls (gd_rc 118)) 11 || Nat.beq (gr_cls (gd_rc 118)) 12) = false := by decide +kernel
theorem gk_b12_118 : Nat.beq (gr_bk (gd_rc 118)) 12 = false := by decide +kernel
theorem gk_bk118 : (bif Nat.beq (gr_bk (gd_rc 118)) 12 then 12 else 11) = 11 := by decide +kernel
theorem gk_nc119 : Nat.beq 119 gd_mCode = false := by decide +kernel
theorem gk_ml119 : gr_ml (gd_rc 119) = 7 := by decide +kernel
theorem gk_ln119 : gr_lng (gd_rc 119) = [] := by decide +kernel
theorem gk_rk119 : gd_rk (gr_ret (gd_rc 119)) = 1 := by decide +kernel
theorem gk_cl119 : gr_cls (gd_rc 119) = 6 := by decide +kernel
theorem gk_n11_119 : Nat.beq (gr_cls (gd_rc 119)) 11 = false := by decide +kernel
theorem gk_n10_119 : Nat.beq (gr_cls (gd_rc 119)) 10 = false := by decide +kernel
theorem gk_n12_119 : Nat.beq (gr_cls (gd_rc 119)) 12 = false := by decide +kernel
theorem gk_nt119 : (Nat.beq (gr_cls (gd_rc 119)) 11 || Nat.beq (gr_cls (gd_rc 119)) 12) = false := by decide +kernel
theorem gk_b12_119 : Nat.beq (gr_bk (gd_rc 119)) 12 = false := by decide +kernel
theorem gk_bk119 : (bif Nat.beq (gr_bk (gd_rc 119)) 12 then 12 else 11) = 11 := by decide +kernel
theorem gk_nc120 : Nat.beq 120 gd_mCode = false := by decide +kernel
theorem gk_ml120 : gr_ml (gd_rc 120) = 6 := by decide +kernel
theorem gk_ln120 : gr_lng (gd_rc 120) = [] := by decide +kernel
theorem gk_rk120 : gd_rk (gr_ret (gd_rc 120)) = 1 := by decide +kernel
theorem gk_cl120 : gr_cls (gd_rc 120) = 9 := by decide +kernel
theorem gk_n11_120 : Nat.beq (gr_cls (gd_rc 120)) 11 = false := by decide +kernel
theorem gk_n10_120 : Nat.beq (gr_cls (gd_rc 120)) 10 = false := by decide +kernel
theorem gk_n12_120 : Nat.beq (gr_cls (gd_rc 120)) 12 = false := by decide +kernel
theorem gk_nt120 : (Nat.beq (gr_cls (gd_rc 120)) 11 || Nat.beq (gr_cls (gd_rc 120)) 12) = false := by decide +kernel
theorem gk_b12_120 : Nat.beq (gr_bk (gd_rc 120)) 12 = false := by decide +kernel
theorem gk_bk120 : (bif Nat.beq (gr_bk (gd_rc 120)) 12 then 12 else 11) = 11 := by decide +kernel
theorem gk_nc121 : Nat.beq 121 gd_mCode = false := by decide +kernel
theorem gk_ml121 : gr_ml (gd_rc 121) = 7 := by decide +kernel
theorem gk_ln121 : gr_lng (gd_rc 121) = [] := by decide +kernel
theorem gk_rk121 : gd_rk (gr_ret (gd_rc 121)) = 1 := by decide +kernel
theorem gk_cl121 : gr_cls (gd_rc 121) = 9 := by decide +kernel
theorem gk_n11_121 : Nat.beq (gr_cls (gd_rc 121)) 11 = false := by decide +kernel
theorem gk_n10_121 : Nat.beq (gr_cls (gd_rc 121)) 10 = false := by decide +kernel
theorem gk_n12_121 : Nat.beq (gr_cls (gd_rc 121)) 12 = false := by decide +kernel
theorem gk_nt121 : (Nat.beq (gr_cls (gd_rc 121)) 11 || Nat.beq (gr_cls (gd_rc 121)) 12) = false := by decide +kernel
theorem gk_b12_121 : Nat.beq (gr_bk (gd_rc 121)) 12 = false := by decide +kernel
theorem gk_bk121 : (bif Nat.beq (gr_bk (gd_rc 121)) 12 then 12 else 11) = 11 := by decide +kernel
theorem gk_nc122 : Nat.beq 122 gd_mCode = false := by decide +kernel
theorem gk_ml122 : gr_ml (gd_rc 122) = 2 := by decide +kernel
theorem gk_ln122 : gr_lng (gd_rc 122) = [] := by decide +kernel
theorem gk_rk122 : gd_rk (gr_ret (gd_rc 122)) = 1 := by decide +kernel
theorem gk_cl122 : gr_cls (gd_rc 122) = 4 := by decide +kernel
theorem gk_n11_122 : Nat.beq (gr_cls (gd_rc 122)) 11 = false := by decide +kernel
theorem gk_n10_122 : Nat.beq (gr_cls (gd_rc 122)) 10 = false := by decide +kernel
theorem gk_n12_122 : Nat.beq (gr_cls (gd_rc 122)) 12 = false := by decide +kernel
theorem gk_nt122 : (Nat.beq (gr_cls (gd_rc 122)) 11 || Nat.beq (gr_cls (gd_rc 122)) 12) = false := by decide +kernel
theorem gk_b12_122 : Nat.beq (gr_bk (gd_rc 122)) 12 = false := by decide +kernel
theorem gk_bk122 : (bif Nat.beq (gr_bk (gd_rc 122)) 12 then 12 else 11) = 11 := by decide +kernel
theorem gk_nc123 : Nat.beq 123 gd_mCode = false := by decide +kernel
theorem gk_ml123 : gr_ml (gd_rc 123) = 8 := by decide +kernel
theorem gk_ln123 : gr_lng (gd_rc 123) = [] := by decide +kernel
theorem gk_rk123 : gd_rk (gr_ret (gd_rc 123)) = 1 := by decide +kernel
theorem gk_cl123 : gr_cls (gd_rc 123) = 4 := by decide +kernel
theorem gk_n11_123 : Nat.beq (gr_cls (gd_rc 123)) 11 = false := by decide +kernel
theorem gk_n10_123 : Nat.beq (gr_cls (gd_rc 123)) 10 = false := by decide +kernel
theorem gk_n12_123 : Nat.beq (gr_cls (gd_rc 123)) 12 = false := by decide +kernel
theorem gk_nt123 : (Nat.beq (gr_cls (gd_rc 123)) 11 || Nat.beq (gr_cls (gd_rc 123)) 12) = false := by decide +kernel
theorem gk_b12_123 : Nat.beq (gr_bk (gd_rc 123)) 12 = false := by decide +kernel
theorem gk_bk123 : (bif Nat.beq (gr_bk (gd_rc 123)) 12 then 12 else 11) = 11 := by decide +kernel
theorem gk_nc124 : Nat.beq 124 gd_mCode = false := by decide +kernel
theorem gk_ml124 : gr_ml (gd_rc 124) = 7 := by decide +kernel
theorem gk_ln124 : gr_lng (gd_rc 124) = [] := by decide +kernel
theorem gk_rk124 : gd_rk (gr_ret (gd_rc 124)) = 0 := by decide +kernel
theorem gk_cl124 : gr_cls (gd_rc 124) = 0 := by decide +kernel
theorem gk_n11_124 : Nat.beq (gr_cls (gd_rc 124)) 11 = false := by decide +kernel
theorem gk_n10_124 : Nat.beq (gr_cls (gd_rc 124)) 10 = false := by decide +kernel
theorem gk_n12_124 : Nat.beq (gr_cls (gd_rc 124)) 12 = false := by decide +kernel
theorem gk_nt124 : (Nat.beq (gr_cls (gd_rc 124)) 11 || Nat.beq (gr_cls (gd_rc 124)) 12) = false := by decide +kernel
theorem gk_b12_124 : Nat.beq (gr_bk (gd_rc 124)) 12 = false := by decide +kernel
theorem gk_bk124 : (bif Nat.beq (gr_bk (gd_rc 124)) 12 then 12 else 11) = 11 := by decide +kernel
theorem gk_nc125 : Nat.beq 125 gd_mCode = false := by decide +kernel
theorem gk_ml125 : gr_ml (gd_rc 125) = 2 := by decide +kernel
theorem gk_ln125 : gr_lng (gd_rc 125) = [] := by decide +kernel
theorem gk_rk125 : gd_rk (gr_ret (gd_rc 125)) = 1 := by decide +kernel
theorem gk_cl125 : gr_cls (gd_rc 125) = 15 := by decide +kernel
theorem gk_n11_125 : Nat.beq (gr_cls (gd_rc 125)) 11 = false := by decide +kernel
theorem gk_n10_125 : Nat.beq (gr_cls (gd_rc 125)) 10 = false := by decide +kernel
theorem gk_n12_125 : Nat.beq (gr_cls (gd_rc 125)) 12 = false := by decide +kernel
theorem gk_nt125 : (Nat.beq (gr_cls (gd_rc 125)) 11 || Nat.beq (gr_cls (gd_rc 125)) 12) = false := by decide +kernel
theorem gk_b12_125 : Nat.beq (gr_bk (gd_rc 125)) 12 = false := by decide +kernel
theorem gk_bk125 : (bif Nat.beq (gr_bk (gd_rc 125)) 12 then 12 else 11) = 11 := by decide +kernel
theorem gk_nc126 : Nat.beq 126 gd_mCode = false := by decide +kernel
theorem gk_ml126 : gr_ml (gd_rc 126) = 11 := by decide +kernel
theorem gk_ln126 : gr_lng (gd_rc 126) = [] := by decide +kernel
theorem gk_rk126 : gd_rk (gr_ret (gd_rc 126)) = 0 := by decide +kernel
theorem gk_cl126 : gr_cls (gd_rc 126) = 0 := by decide +kernel
theorem gk_n11_126 : Nat.beq (gr_cls (gd_rc 126)) 11 = false := by decide +kernel
theorem gk_n10_126 : Nat.beq (gr_cls (gd_rc 126)) 10 = false := by decide +kernel
theorem gk_n12_126 : Nat.beq (gr_cls (gd_rc 126)) 12 = false := by decide +kernel
theorem gk_nt126 : (Nat.beq (gr_cls (gd_rc 126)) 11 || Nat.beq (gr_cls (gd_rc 126)) 12) = false := by decide +kernel
theorem gk_b12_126 : Nat.beq (gr_bk (gd_rc 126)) 12 = false := by decide +kernel
theorem gk_bk126 : (bif Nat.beq (gr_bk (gd_rc 126)) 12 then 12 else 11) = 11 := by decide +kernel
theorem gk_nc127 : Nat.beq 127 gd_mCode = false := by decide +kernel
theorem gk_ml127 : gr_ml (gd_rc 127) = 2 := by decide +kernel
theorem gk_ln127 : gr_lng (gd_rc 127) = [] := by decide +kernel
theorem gk_rk127 : gd_rk (gr_ret (gd_rc 127)) = 0 := by decide +kernel
theorem gk_cl127 : gr_cls (gd_rc 127) = 0 := by decide +kernel
theorem gk_n11_127 : Nat.beq (gr_cls (gd_rc 127)) 11 = false := by decide +kernel
theorem gk_n10_127 : Nat.beq (gr_cls (gd_rc 127)) 10 = false := by decide +kernel
theorem gk_n12_127 : Nat.beq (gr_cls (gd_rc 127)) 12 = false := by decide +kernel
theorem gk_nt127 : (Nat.beq (gr_cls (gd_rc 127)) 11 || Nat.beq (gr_cls (gd_rc 127)) 12) = false := by decide +kernel
theorem gk_b12_127 : Nat.beq (gr_bk (gd_rc 127)) 12 = false := by decide +kernel
theorem gk_bk127 : (bif Nat.beq (gr_bk (gd_rc 127)) 12 then 12 else 11) = 11 := by decide +kernel
theorem gk_nc128 : Nat.beq 128 gd_mCode = false := by decide +kernel
theorem gk_ml128 : gr_ml (gd_rc 128) = 9 := by decide +kernel
theorem gk_ln128 : gr_lng (gd_rc 128) = [] := by decide +kernel
theorem gk_rk128 : gd_rk (gr_ret (gd_rc 128)) = 1 := by decide +kernel
theorem gk_cl128 : gr_cls (gd_rc 128) = 0 := by decide +kernel
theorem gk_n11_128 : Nat.beq (gr_cls (gd_rc 128)) 11 = false := by decide +kernel
theorem gk_n10_128 : Nat.beq (gr_cls (gd_rc 128)) 10 = false := by decide +kernel
theorem gk_n12_128 : Nat.beq (gr_cls (gd_rc 128)) 12 = false := by decide +kernel
theorem gk_nt128 : (Nat.beq (gr_cls (gd_rc 128)) 11 || Nat.beq (gr_cls (gd_rc 128)) 12) = false := by decide +kernel
theorem gk_b12_128 : Nat.beq (gr_bk (gd_rc 128)) 12 = false := by decide +kernel
theorem gk_bk128 : (bif Nat.beq (gr_bk (gd_rc 128)) 12 then 12 else 11) = 11 := by decide +kernel
theorem gk_nc129 : Nat.beq 129 gd_mCode = false := by decide +kernel
theorem gk_ml129 : gr_ml (gd_rc 129) = 3 := by decide +kernel
theorem gk_ln129 : gr_lng (gd_rc 129) = [] := by decide +kernel
theorem gk_rk129 : gd_rk (gr_ret (gd_rc 129)) = 1 := by decide +kernel
theorem gk_cl129 : gr_cls (gd_rc 129) = 15 := by decide +kernel
theorem gk_n11_129 : Nat.beq (gr_cls (gd_rc 129)) 11 = false := by decide +kernel
theorem gk_n10_129 : Nat.beq (gr_cls (gd_rc 129)) 10 = false := by decide +kernel
theorem gk_n12_129 : Nat.beq (gr_cls (gd_rc 129)) 12 = false := by decide +kernel
theorem gk_nt129 : (Nat.beq (gr_cls (gd_rc 129)) 11 || Nat.beq (gr_cls (gd_rc 129)) 12) = false := by decide +kernel
theorem gk_b12_129 : Nat.beq (gr_bk (gd_rc 129)) 12 = false := by decide +kernel
theorem gk_bk129 : (bif Nat.beq (gr_bk (gd_rc 129)) 12 then 12 else 11) = 11 := by decide +kernel
theorem gk_nc130 : Nat.beq 130 gd_mCode = false := by decide +kernel
theorem gk_ml130 : gr_ml (gd_rc 130) = 5 := by decide +kernel
theorem gk_ln130 : gr_lng (gd_rc 130) = [] := by decide +kernel
theorem gk_rk130 : gd_rk (gr_ret (gd_rc 130)) = 0 := by decide +kernel
theorem gk_cl130 : gr_cls (gd_rc 130) = 0 := by decide +kernel
theorem gk_n11_130 : Nat.beq (gr_cls (gd_rc 130)) 11 = false := by decide +kernel
theorem gk_n10_130 : Nat.beq (gr_cls (gd_rc 130)) 10 = false := by decide +kernel
theorem gk_n12_130 : Nat.beq (gr_cls (gd_rc 130)) 12 = false := by decide +kernel
theorem gk_nt130 : (Nat.beq (gr_cls (gd_rc 130)) 11 || Nat.beq (gr_cls (gd_rc 130)) 12) = false := by decide +kernel
theorem gk_b12_130 : Nat.beq (gr_bk (gd_rc 130)) 12 = false := by decide +kernel
theorem gk_bk130 : (bif Nat.beq (gr_bk (gd_rc 130)) 12 then 12 else 11) = 11 := by decide +kernel
theorem gk_nc131 : Nat.beq 131 gd_mCode = false := by decide +kernel
theorem gk_ml131 : gr_ml (gd_rc 131) = 6 := by decide +kernel
theorem gk_ln131 : gr_lng (gd_rc 131) = [] := by decide +kernel
theorem gk_rk131 : gd_rk (gr_ret (gd_rc 131)) = 0 := by decide +kernel
theorem gk_cl131 : gr_cls (gd_rc 131) = 0 := by decide +kernel
theorem gk_n11_131 : Nat.beq (gr_cls (gd_rc 131)) 11 = false := by decide +kernel
theorem gk_n10_131 : Nat.beq (gr_cls (gd_rc 131)) 10 = false := by decide +kernel
theorem gk_n12_131 : Nat.beq (gr_cls (gd_rc 131)) 12 = false := by decide +kernel
theorem gk_nt131 : (Nat.beq (gr_cls (gd_rc 131)) 11 || Nat.beq (gr_cls (gd_rc 131)) 12) = false := by decide +kernel
theorem gk_b12_131 : Nat.beq (gr_bk (gd_rc 131)) 12 = false := by decide +kernel
theorem gk_bk131 : (bif Nat.beq (gr_bk (gd_rc 131)) 12 then 12 else 11) = 11 := by decide +kernel
theorem gk_nc132 : Nat.beq 132 gd_mCode = false := by decide +kernel
theorem gk_ml132 : gr_ml (gd_rc 132) = 3 := by decide +kernel
theorem gk_ln132 : gr_lng (gd_rc 132) = [] := by decide +kernel
theorem gk_rk132 : gd_rk (gr_ret (gd_rc 132)) = 0 := by decide +kernel
theorem gk_cl132 : gr_cls (gd_rc 132) = 4 := by decide +kernel
theorem gk_n11_132 : Nat.beq (gr_cls (gd_rc 132)) 11 = false := by decide +kernel
theorem gk_n10_132 : Nat.beq (gr_cls (gd_rc 132)) 10 = false := by decide +kernel
theorem gk_n12_132 : Nat.beq (gr_cls (gd_rc 132)) 12 = false := by decide +kernel
theorem gk_nt132 : (Nat.beq (gr_cls (gd_rc 132)) 11 || Nat.beq (gr_cls (gd_rc 132)) 12) = false := by decide +kernel
theorem gk_b12_132 : Nat.beq (gr_bk (gd_rc 132)) 12 = false := by decide +kernel
theorem gk_bk132 : (bif Nat.beq (gr_bk (gd_rc 132)) 12 then 12 else 11) = 11 := by decide +kernel
theorem gk_nc133 : Nat.beq 133 gd_mCode = false := by decide +kernel
theorem gk_ml133 : gr_ml (gd_rc 133) = 2 := by decide +kernel
theorem gk_ln133 : gr_lng (gd_rc 133) = [] := by decide +kernel
theorem gk_rk133 : gd_rk (gr_ret (gd_rc 133)) = 0 := by decide +kernel
theorem gk_cl133 : gr_cls (gd_rc 133) = 6 := by decide +kernel
theorem gk_n11_133 : Nat.beq (gr_cls (gd_rc 133)) 11 = false := by decide +kernel
theorem gk_n10_133 : Nat.beq (gr_cls (gd_rc 133)) 10 = false := by decide +kernel
theorem gk_n12_133 : Nat.beq (gr_cls (gd_rc 133)) 12 = false := by decide +kernel
theorem gk_nt133 : (Nat.beq (gr_cls (gd_rc 133)) 11 || Nat.beq (gr_cls (gd_rc 133)) 12) = false := by decide +kernel
theorem gk_b12_133 : Nat.beq (gr_bk (gd_rc 133)) 12 = false := by decide +kernel
theorem gk_bk133 : (bif Nat.beq (gr_bk (gd_rc 133)) 12 then 12 else 11) = 11 := by decide +kernel
theorem gk_nc134 : Nat.beq 134 gd_mCode = false := by decide +kernel
theorem gk_ml134 : gr_ml (gd_rc 134) = 6 := by decide +kernel
theorem gk_ln134 : gr_lng (gd_rc 134) = [] := by decide +kernel
theorem gk_rk134 : gd_rk (gr_ret (gd_rc 134)) = 1 := by decide +kernel
theorem gk_cl134 : gr_cls (gd_rc 134) = 4 := by decide +kernel
theorem gk_n11_134 : Nat.beq (gr_cls (gd_rc 134)) 11 = false := by decide +kernel
theorem gk_n10_134 : Nat.beq (gr_cls (gd_rc 134)) 10 = false := by decide +kernel
theorem gk_n12_134 : Nat.beq (gr_cls (gd_rc 134)) 12 = false := by decide +kernel
theorem gk_nt134 : (Nat.beq (gr_cls (gd_rc 134)) 11 || Nat.beq (gr_cls (gd_rc 134)) 12) = false := by decide +kernel
theorem gk_b12_134 : Nat.beq (gr_bk (gd_rc 134)) 12 = false := by decide +kernel
theorem gk_bk134 : (bif Nat.beq (gr_bk (gd_rc 134)) 12 then 12 else 11) = 11 := by decide +kernel
theorem gk_nc135 : Nat.beq 135 gd_mCode = false := by decide +kernel
theorem gk_ml135 : gr_ml (gd_rc 135) = 2 := by decide +kernel
theorem gk_ln135 : gr_lng (gd_rc 135) = [] := by decide +kernel
theorem gk_rk135 : gd_rk (gr_ret (gd_rc 135)) = 0 := by decide +kernel
theorem gk_cl135 : gr_cls (gd_rc 135) = 4 := by decide +kernel
theorem gk_n11_135 : Nat.beq (gr_cls (gd_rc 135)) 11 = false := by decide +kernel
theorem gk_n10_135 : Nat.beq (gr_cls (gd_rc 135)) 10 = false := by decide +kernel
theorem gk_n12_135 : Nat.beq (gr_cls (gd_rc 135)) 12 = false := by decide +kernel
theorem gk_nt135 : (Nat.beq (gr_cls (gd_rc 135)) 11 || Nat.beq (gr_cls (gd_rc 135)) 12) = false := by decide +kernel
theorem gk_b12_135 : Nat.beq (gr_bk (gd_rc 135)) 12 = false := by decide +kernel
theorem gk_bk135 : (bif Nat.beq (gr_bk (gd_rc 135)) 12 then 12 else 11) = 11 := by decide +kernel
theorem gk_nc136 : Nat.beq 136 gd_mCode = false := by decide +kernel
theorem gk_ml136 : gr_ml (gd_rc 136) = 3 := by decide +kernel
theorem gk_ln136 : gr_lng (gd_rc 136) = [] := by decide +kernel
theorem gk_rk136 : gd_rk (gr_ret (gd_rc 136)) = 0 := by decide +kernel
theorem gk_cl136 : gr_cls (gd_rc 136) = 4 := by decide +kernel
theorem gk_n11_136 : Nat.beq (gr_cls (gd_rc 136)) 11 = false := by decide +kernel
theorem gk_n10_136 : Nat.beq (gr_cls (gd_rc 136)) 10 = false := by decide +kernel
theorem gk_n12_136 : Nat.beq (gr_cls (gd_rc 136)) 12 = false := by decide +kernel
theorem gk_nt136 : (Nat.beq (gr_cls (gd_rc 136)) 11 || Nat.beq (gr_cls (gd_rc 136)) 12) = false := by decide +kernel
theorem gk_b12_136 : Nat.beq (gr_bk (gd_rc 136)) 12 = false := by decide +kernel
theorem gk_bk136 : (bif Nat.beq (gr_bk (gd_rc 136)) 12 then 12 else 11) = 11 := by decide +kernel
theorem gk_nc137 : Nat.beq 137 gd_mCode = false := by decide +kernel
theorem gk_ml137 : gr_ml (gd_rc 137) = 5 := by decide +kernel
theorem gk_ln137 : gr_lng (gd_rc 137) = [] := by decide +kernel
theorem gk_rk137 : gd_rk (gr_ret (gd_rc 137)) = 1 := by decide +kernel
theorem gk_cl137 : gr_cls (gd_rc 137) = 6 := by decide +kernel
theorem gk_n11_137 : Nat.beq (gr_cls (gd_rc 137)) 11 = false := by decide +kernel
theorem gk_n10_137 : Nat.beq (gr_cls (gd_rc 137)) 10 = false := by decide +kernel
theorem gk_n12_137 : Nat.beq (gr_cls (gd_rc 137)) 12 = false := by decide +kernel
theorem gk_nt137 : (Nat.beq (gr_cls (gd_rc 137)) 11 || Nat.beq (gr_cls (gd_rc 137)) 12) = false := by decide +kernel
theorem gk_b12_137 : Nat.beq (gr_bk (gd_rc 137)) 12 = false := by decide +kernel
theorem gk_bk137 : (bif Nat.beq (gr_bk (gd_rc 137)) 12 then 12 else 11) = 11 := by decide +kernel
theorem gk_nc138 : Nat.beq 138 gd_mCode = false := by decide +kernel
theorem gk_ml138 : gr_ml (gd_rc 138) = 7 := by decide +kernel
theorem gk_ln138 : gr_lng (gd_rc 138) = [] := by decide +kernel
theorem gk_rk138 : gd_rk (gr_ret (gd_rc 138)) = 4 := by decide +kernel
theorem gk_cl138 : gr_cls (gd_rc 138) = 9 := by decide +kernel
theorem gk_n11_138 : Nat.beq (gr_cls (gd_rc 138)) 11 = false := by decide +kernel
theorem gk_n10_138 : Nat.beq (gr_cls (gd_rc 138)) 10 = false := by decide +kernel
theorem gk_n12_138 : Nat.beq (gr_cls (gd_rc 138)) 12 = false := by decide +kernel
theorem gk_nt138 : (Nat.beq (gr_cls (gd_rc 138)) 11 || Nat.beq (gr_cls (gd_rc 138)) 12) = false := by decide +kernel
theorem gk_b12_138 : Nat.beq (gr_bk (gd_rc 138)) 12 = false := by decide +kernel
theorem gk_bk138 : (bif Nat.beq (gr_bk (gd_rc 138)) 12 then 12 else 11) = 11 := by decide +kernel
theorem gk_nc139 : Nat.beq 139 gd_mCode = false := by decide +kernel
theorem gk_ml139 : gr_ml (gd_rc 139) = 6 := by decide +kernel
theorem gk_ln139 : gr_lng (gd_rc 139) = [] := by decide +kernel
theorem gk_rk139 : gd_rk (gr_ret (gd_rc 139)) = 4 := by decide +kernel
theorem gk_cl139 : gr_cls (gd_rc 139) = 9 := by decide +kernel
theorem gk_n11_139 : Nat.beq (gr_cls (gd_rc 139)) 11 = false := by decide +kernel
theorem gk_n10_139 : Nat.beq (gr_cls (gd_rc 139)) 10 = false := by decide +kernel
theorem gk_n12_139 : Nat.beq (gr_cls (gd_rc 139)) 12 = false := by decide +kernel
theorem gk_nt139 : (Nat.beq (gr_cls (gd_rc 139)) 11 || Nat.beq (gr_cls (gd_rc 139)) 12) = false := by decide +kernel
theorem gk_b12_139 : Nat.beq (gr_bk (gd_rc 139)) 12 = false := by decide +kernel
theorem gk_bk139 : (bif Nat.beq (gr_bk (gd_rc 139)) 12 then 12 else 11) = 11 := by decide +kernel
theorem gk_nc140 : Nat.beq 140 gd_mCode = false := by decide +kernel
theorem gk_ml140 : gr_ml (gd_rc 140) = 9 := by decide +kernel
theorem gk_ln140 : gr_lng (gd_rc 140) = [] := by decide +kernel
theorem gk_rk140 : gd_rk (gr_ret (gd_rc 140)) = 1 := by decide +kernel
theorem gk_cl140 : gr_cls (gd_rc 140) = 9 := by decide +kernel
theorem gk_n11_140 : Nat.beq (gr_cls (gd_rc 140)) 11 = false := by decide +kernel
theorem gk_n10_140 : Nat.beq (gr_cls (gd_rc 140)) 10 = false := by decide +kernel
theorem gk_n12_140 : Nat.beq (gr_cls (gd_rc 140)) 12 = false := by decide +kernel
theorem gk_nt140 : (Nat.beq (gr_cls (gd_rc 140)) 11 || Nat.beq (gr_cls (gd_rc 140)) 12) = false := by decide +kernel
theorem gk_b12_140 : Nat.beq (gr_bk (gd_rc 140)) 12 = false := by decide +kernel
theorem gk_bk140 : (bif Nat.beq (gr_bk (gd_rc 140)) 12 then 12 else 11) = 11 := by decide +kernel
theorem gk_nc141 : Nat.beq 141 gd_mCode = false := by decide +kernel
theorem gk_ml141 : gr_ml (gd_rc 141) = 7 := by decide +kernel
theorem gk_ln141 : gr_lng (gd_rc 141) = [] := by decide +kernel
theorem gk_rk141 : gd_rk (gr_ret (gd_rc 141)) = 0 := by decide +kernel
theorem gk_cl141 : gr_cls (gd_rc 141) = 9 := by decide +kernel
theorem gk_n11_141 : Nat.beq (gr_cls (gd_rc 141)) 11 = false := by decide +kernel
theorem gk_n10_141 : Nat.beq (gr_cls (gd_rc 141)) 10 = false := by decide +kernel
theorem gk_n12_141 : Nat.beq (gr_cls (gd_rc 141)) 12 = false := by decide +kernel
theorem gk_nt141 : (Nat.beq (gr_cls (gd_rc 141)) 11 || Nat.beq (gr_cls (gd_rc 141)) 12) = false := by decide +kernel
theorem gk_b12_141 : Nat.beq (gr_bk (gd_rc 141)) 12 = false := by decide +kernel
theorem gk_bk141 : (bif Nat.beq (gr_bk (gd_rc 141)) 12 then 12 else 11) = 11 := by decide +kernel
theorem gk_nc142 : Nat.beq 142 gd_mCode = false := by decide +kernel
theorem gk_ml142 : gr_ml (gd_rc 142) = 2 := by decide +kernel
theorem gk_ln142 : gr_lng (gd_rc 142) = [] := by decide +kernel
theorem gk_rk142 : gd_rk (gr_ret (gd_rc 142)) = 1 := by decide +kernel
theorem gk_cl142 : gr_cls (gd_rc 142) = 9 := by decide +kernel
theorem gk_n11_142 : Nat.beq (gr_cls (gd_rc 142)) 11 = false := by decide +kernel
theorem gk_n10_142 : Nat.beq (gr_cls (gd_rc 142)) 10 = false := by decide +kernel
theorem gk_n12_142 : Nat.beq (gr_cls (gd_rc 142)) 12 = false := by decide +kernel
theorem gk_nt142 : (Nat.beq (gr_cls (gd_rc 142)) 11 || Nat.beq (gr_cls (gd_rc 142)) 12) = false := by decide +kernel
theorem gk_b12_142 : Nat.beq (gr_bk (gd_rc 142)) 12 = false := by decide +kernel
theorem gk_bk142 : (bif Nat.beq (gr_bk (gd_rc 142)) 12 then 12 else 11) = 11 := by decide +kernel
theorem gk_nc143 : Nat.beq 143 gd_mCode = false := by decide +kernel
theorem gk_ml143 : gr_ml (gd_rc 143) = 7 := by decide +kernel
theorem gk_ln143 : gr_lng (gd_rc 143) = [] := by decide +kernel
theorem gk_rk143 : gd_rk (gr_ret (gd_rc 143)) = 1 := by decide +kernel
theorem gk_cl143 : gr_cls (gd_rc 143) = 9 := by decide +kernel
theorem gk_n11_143 : Nat.beq (gr_cls (gd_rc 143)) 11 = false := by decide +kernel
theorem gk_n10_143 : Nat.beq (gr_cls (gd_rc 143)) 10 = false := by decide +kernel
theorem gk_n12_143 : Nat.beq (gr_cls (gd_rc 143)) 12 = false := by decide +kernel
theorem gk_nt143 : (Nat.beq (gr_cls (gd_rc 143)) 11 || Nat.beq (gr_cls (gd_rc 143)) 12) = false := by decide +kernel
theorem gk_b12_143 : Nat.beq (gr_bk (gd_rc 143)) 12 = false := by decide +kernel
theorem gk_bk143 : (bif Nat.beq (gr_bk (gd_rc 143)) 12 then 12 else 11) = 11 := by decide +kernel
theorem gk_nc144 : Nat.beq 144 gd_mCode = false := by decide +kernel
theorem gk_ml144 : gr_ml (gd_rc 144) = 3 := by decide +kernel
theorem gk_ln144 : gr_lng (gd_rc 144) = [] := by decide +kernel
theorem gk_rk144 : gd_rk (gr_ret (gd_rc 144)) = 1 := by decide +kernel
theorem gk_cl144 : gr_cls (gd_rc 144) = 9 := by decide +kernel
theorem gk_n11_144 : Nat.beq (gr_cls (gd_rc 144)) 11 = false := by decide +kernel
theorem gk_n10_144 : Nat.beq (gr_cls (gd_rc 144)) 10 = false := by decide +kernel
theorem gk_n12_144 : Nat.beq (gr_cls (gd_rc 144)) 12 = false := by decide +kernel
theorem gk_nt144 : (Nat.beq (gr_cls (gd_rc 144)) 11 || Nat.beq (gr_cls (gd_rc 144)) 12) = false := by decide +kernel
theorem gk_b12_144 : Nat.beq (gr_bk (gd_rc 144)) 12 = false := by decide +kernel
theorem gk_bk144 : (bif Nat.beq (gr_bk (gd_rc 144)) 12 then 12 else 11) = 11 := by decide +kernel
theorem gk_nc145 : Nat.beq 145 gd_mCode = false := by decide +kernel
theorem gk_ml145 : gr_ml (gd_rc 145) = 5 := by decide +kernel
theorem gk_ln145 : gr_lng (gd_rc 145) = [] := by decide +kernel
theorem gk_rk145 : gd_rk (gr_ret (gd_rc 145)) = 1 := by decide +kernel
theorem gk_cl145 : gr_cls (gd_rc 145) = 9 := by decide +kernel
theorem gk_n11_145 : Nat.beq (gr_cls (gd_rc 145)) 11 = false := by decide +kernel
theorem gk_n10_145 : Nat.beq (gr_cls (gd_rc 145)) 10 = false := by decide +kernel
theorem gk_n12_145 : Nat.beq (gr_cls (gd_rc 145)) 12 = false := by decide +kernel
theorem gk_nt145 : (Nat.beq (gr_cls (gd_rc 145)) 11 || Nat.beq (gr_cls (gd_rc 145)) 12) = false := by decide +kernel
theorem gk_b12_145 : Nat.beq (gr_bk (gd_rc 145)) 12 = false := by decide +kernel
theorem gk_bk145 : (bif Nat.beq (gr_bk (gd_rc 145)) 12 then 12 else 11) = 11 := by decide +kernel
theorem gk_nc146 : Nat.beq 146 gd_mCode = false := by decide +kernel
theorem gk_ml146 : gr_ml (gd_rc 146) = 2 := by decide +kernel
theorem gk_ln146 : gr_lng (gd_rc 146) = [] := by decide +kernel
theorem gk_rk146 : gd_rk (gr_ret (gd_rc 146)) = 1 := by decide +kernel
theorem gk_cl146 : gr_cls (gd_rc 146) = 6 := by decide +kernel
theorem gk_n11_146 : Nat.beq (gr_cls (gd_rc 146)) 11 = false := by decide +kernel
theorem gk_n10_146 : Nat.beq (gr_cls (gd_rc 146)) 10 = false := by decide +kernel
theorem gk_n12_146 : Nat.beq (gr_cls (gd_rc 146)) 12 = false := by decide +kernel
theorem gk_nt146 : (Nat.beq (gr_cls (gd_rc 146)) 11 || Nat.beq (gr_cls (gd_rc 146)) 12) = false := by decide +kernel
theorem gk_b12_146 : Nat.beq (gr_bk (gd_rc 146)) 12 = false := by decide +kernel
theorem gk_bk146 : (bif Nat.beq (gr_bk (gd_rc 146)) 12 then 12 else 11) = 11 := by decide +kernel
theorem gk_nc147 : Nat.beq 147 gd_mCode = false := by decide +kernel
theorem gk_ml147 : gr_ml (gd_rc 147) = 3 := by decide +kernel
theorem gk_ln147 : gr_lng (gd_rc 147) = [] := by decide +kernel
theorem gk_rk147 : gd_rk (gr_ret (gd_rc 147)) = 1 := by decide +kernel
theorem gk_cl147 : gr_cls (gd_rc 147) = 6 := by decide +kernel
theorem gk_n11_147 : Nat.beq (gr_cls (gd_rc 147)) 11 = false := by decide +kernel
theorem gk_n10_147 : Nat.beq (gr_cls (gd_rc 147)) 10 = false := by decide +kernel
theorem gk_n12_147 : Nat.beq (gr_cls (gd_rc 147)) 12 = false := by decide +kernel
theorem gk_nt147 : (Nat.beq (gr_cls (gd_rc 147)) 11 || Nat.beq (gr_cls (gd_rc 147)) 12) = false := by decide +kernel
theorem gk_b12_147 : Nat.beq (gr_bk (gd_rc 147)) 12 = false := by decide +kernel
theorem gk_bk147 : (bif Nat.beq (gr_bk (gd_rc 147)) 12 then 12 else 11) = 11 := by decide +kernel
theorem gk_nc148 : Nat.beq 148 gd_mCode = false := by decide +kernel
theorem gk_ml148 : gr_ml (gd_rc 148) = 5 := by decide +kernel
theorem gk_ln148 : gr_lng (gd_rc 148) = [] := by decide +kernel
theorem gk_rk148 : gd_rk (gr_ret (gd_rc 148)) = 1 := by decide +kernel
theorem gk_cl148 : gr_cls (gd_rc 148) = 6 := by decide +kernel
theorem gk_n11_148 : Nat.beq (gr_cls (gd_rc 148)) 11 = false := by decide +kernel
theorem gk_n10_148 : Nat.beq (gr_cls (gd_rc 148)) 10 = false := by decide +kernel
theorem gk_n12_148 : Nat.beq (gr_cls (gd_rc 148)) 12 = false := by decide +kernel
theorem gk_nt148 : (Nat.beq (gr_cls (gd_rc 148)) 11 || Nat.beq (gr_cls (gd_rc 148)) 12) = false := by decide +kernel
theorem gk_b12_148 : Nat.beq (gr_bk (gd_rc 148)) 12 = false := by decide +kernel
theorem gk_bk148 : (bif Nat.beq (gr_bk (gd_rc 148)) 12 then 12 else 11) = 11 := by decide +kernel
theorem gk_nc149 : Nat.beq 149 gd_mCode = false := by decide +kernel
theorem gk_ml149 : gr_ml (gd_rc 149) = 2 := by decide +kernel
theorem gk_ln149 : gr_lng (gd_rc 149) = [] := by decide +kernel
theorem gk_rk149 : gd_rk (gr_ret (gd_rc 149)) = 4 := by decide +kernel
theorem gk_cl149 : gr_cls (gd_rc 149) = 9 := by decide +kernel
theorem gk_n11_149 : Nat.beq (gr_cls (gd_rc 149)) 11 = false := by decide +kernel
theorem gk_n10_149 : Nat.beq (gr_cls (gd_rc 149)) 10 = false := by decide +kernel
theorem gk_n12_149 : Nat.beq (gr_cls (gd_rc 149)) 12 = false := by decide +kernel
theorem gk_nt149 : (Nat.beq (gr_cls (gd_rc 149)) 11 || Nat.beq (gr_cls (gd_rc 149)) 12) = false := by decide +kernel
theorem gk_b12_149 : Nat.beq (gr_bk (gd_rc 149)) 12 = false := by decide +kernel
theorem gk_bk149 : (bif Nat.beq (gr_bk (gd_rc 149)) 12 then 12 else 11) = 11 := by decide +kernel
theorem gk_nc150 : Nat.beq 150 gd_mCode = false := by decide +kernel
theorem gk_ml150 : gr_ml (gd_rc 150) = 7 := by decide +kernel
theorem gk_ln150 : gr_lng (gd_rc 150) = [] := by decide +kernel
theorem gk_rk150 : gd_rk (gr_ret (gd_rc 150)) = 1 := by decide +kernel
theorem gk_cl150 : gr_cls (gd_rc 150) = 9 := by decide +kernel
theorem gk_n11_150 : Nat.beq (gr_cls (gd_rc 150)) 11 = false := by decide +kernel
theorem gk_n10_150 : Nat.beq (gr_cls (gd_rc 150)) 10 = false := by decide +kernel
theorem gk_n12_150 : Nat.beq (gr_cls (gd_rc 150)) 12 = false := by decide +kernel
theorem gk_nt150 : (Nat.beq (gr_cls (gd_rc 150)) 11 || Nat.beq (gr_cls (gd_rc 150)) 12) = false := by decide +kernel
theorem gk_b12_150 : Nat.beq (gr_bk (gd_rc 150)) 12 = false := by decide +kernel
theorem gk_bk150 : (bif Nat.beq (gr_bk (gd_rc 150)) 12 then 12 else 11) = 11 := by decide +kernel
theorem gk_nc151 : Nat.beq 151 gd_mCode = false := by decide +kernel
theorem gk_ml151 : gr_ml (gd_rc 151) = 1 := by decide +kernel
theorem gk_ln151 : gr_lng (gd_rc 151) = [] := by decide +kernel
theorem gk_rk151 : gd_rk (gr_ret (gd_rc 151)) = 4 := by decide +kernel
theorem gk_cl151 : gr_cls (gd_rc 151) = 4 := by decide +kernel
theorem gk_n11_151 : Nat.beq (gr_cls (gd_rc 151)) 11 = false := by decide +kernel
theorem gk_n10_151 : Nat.beq (gr_cls (gd_rc 151)) 10 = false := by decide +kernel
theorem gk_n12_151 : Nat.beq (gr_cls (gd_rc 151)) 12 = false := by decide +kernel
theorem gk_nt151 : (Nat.beq (gr_cls (gd_rc 151)) 11 || Nat.beq (gr_cls (gd_rc 151)) 12) = false := by decide +kernel
theorem gk_b12_151 : Nat.beq (gr_bk (gd_rc 151)) 12 = false := by decide +kernel
theorem gk_bk151 : (bif Nat.beq (gr_bk (gd_rc 151)) 12 then 12 else 11) = 11 := by decide +kernel
theorem gk_nc152 : Nat.beq 152 gd_mCode = false := by decide +kernel
theorem gk_ml152 : gr_ml (gd_rc 152) = 5 := by decide +kernel
theorem gk_ln152 : gr_lng (gd_rc 152) = [] := by decide +kernel
theorem gk_rk152 : gd_rk (gr_ret (gd_rc 152)) = 1 := by decide +kernel
theorem gk_cl152 : gr_cls (gd_rc 152) = 6 := by decide +kernel
theorem gk_n11_152 : Nat.beq (gr_cls (gd_rc 152)) 11 = false := by decide +kernel
theorem gk_n10_152 : Nat.beq (gr_cls (gd_rc 152)) 10 = false := by decide +kernel
theorem gk_n12_152 : Nat.beq (gr_cls (gd_rc 152)) 12 = false := by decide +kernel
theorem gk_nt152 : (Nat.beq (gr_cls (gd_rc 152)) 11 || Nat.beq (gr_cls (gd_rc 152)) 12) = false := by decide +kernel
theorem gk_b12_152 : Nat.beq (gr_bk (gd_rc 152)) 12 = false := by decide +kernel
theorem gk_bk152 : (bif Nat.beq (gr_bk (gd_rc 152)) 12 then 12 else 11) = 11 := by decide +kernel
theorem gk_nc153 : Nat.beq 153 gd_mCode = false := by decide +kernel
theorem gk_ml153 : gr_ml (gd_rc 153) = 5 := by decide +kernel
theorem gk_ln153 : gr_lng (gd_rc 153) = [] := by decide +kernel
theorem gk_rk153 : gd_rk (gr_ret (gd_rc 153)) = 1 := by decide +kernel
theorem gk_cl153 : gr_cls (gd_rc 153) = 9 := by decide +kernel
theorem gk_n11_153 : Nat.beq (gr_cls (gd_rc 153)) 11 = false := by decide +kernel
theorem gk_n10_153 : Nat.beq (gr_cls (gd_rc 153)) 10 = false := by decide +kernel
theorem gk_n12_153 : Nat.beq (gr_cls (gd_rc 153)) 12 = false := by decide +kernel
theorem gk_nt153 : (Nat.beq (gr_cls (gd_rc 153)) 11 || Nat.beq (gr_cls (gd_rc 153)) 12) = false := by decide +kernel
theorem gk_b12_153 : Nat.beq (gr_bk (gd_rc 153)) 12 = false := by decide +kernel
theorem gk_bk153 : (bif Nat.beq (gr_bk (gd_rc 153)) 12 then 12 else 11) = 11 := by decide +kernel
theorem gk_nc154 : Nat.beq 154 gd_mCode = false := by decide +kernel
theorem gk_ml154 : gr_ml (gd_rc 154) = 7 := by decide +kernel
theorem gk_ln154 : gr_lng (gd_rc 154) = [] := by decide +kernel
theorem gk_rk154 : gd_rk (gr_ret (gd_rc 154)) = 1 := by decide +kernel
theorem gk_cl154 : gr_cls (gd_rc 154) = 6 := by decide +kernel
theorem gk_n11_154 : Nat.beq (gr_cls (gd_rc 154)) 11 = false := by decide +kernel
theorem gk_n10_154 : Nat.beq (gr_cls (gd_rc 154)) 10 = false := by decide +kernel
theorem gk_n12_154 : Nat.beq (gr_cls (gd_rc 154)) 12 = false := by decide +kernel
theorem gk_nt154 : (Nat.beq (gr_cls (gd_rc 154)) 11 || Nat.beq (gr_cls (gd_rc 154)) 12) = false := by decide +kernel
theorem gk_b12_154 : Nat.beq (gr_bk (gd_rc 154)) 12 = false := by decide +kernel
theorem gk_bk154 : (bif Nat.beq (gr_bk (gd_rc 154)) 12 then 12 else 11) = 11 := by decide +kernel
theorem gk_nc155 : Nat.beq 155 gd_mCode = false := by decide +kernel
theorem gk_ml155 : gr_ml (gd_rc 155) = 8 := by decide +kernel
theorem gk_ln155 : gr_lng (gd_rc 155) = [] := by decide +kernel
theorem gk_rk155 : gd_rk (gr_ret (gd_rc 155)) = 1 := by decide +kernel
theorem gk_cl155 : gr_cls (gd_rc 155) = 9 := by decide +kernel
theorem gk_n11_155 : Nat.beq (gr_cls (gd_rc 155)) 11 = false := by decide +kernel
theorem gk_n10_155 : Nat.beq (gr_cls (gd_rc 155)) 10 = false := by decide +kernel
theorem gk_n12_155 : Nat.beq (gr_cls (gd_rc 155)) 12 = false := by decide +kernel
theorem gk_nt155 : (Nat.beq (gr_cls (gd_rc 155)) 11 || Nat.beq (gr_cls (gd_rc 155)) 12) = false := by decide +kernel
theorem gk_b12_155 : Nat.beq (gr_bk (gd_rc 155)) 12 = false := by decide +kernel
theorem gk_bk155 : (bif Nat.beq (gr_bk (gd_rc 155)) 12 then 12 else 11) = 11 := by decide +kernel
theorem gk_nc156 : Nat.beq 156 gd_mCode = false := by decide +kernel
theorem gk_ml156 : gr_ml (gd_rc 156) = 1 := by decide +kernel
theorem gk_ln156 : gr_lng (gd_rc 156) = [] := by decide +kernel
theorem gk_rk156 : gd_rk (gr_ret (gd_rc 156)) = 4 := by decide +kernel
theorem gk_cl156 : gr_cls (gd_rc 156) = 6 := by decide +kernel
theorem gk_n11_156 : Nat.beq (gr_cls (gd_rc 156)) 11 = false := by decide +kernel
theorem gk_n10_156 : Nat.beq (gr_cls (gd_rc 156)) 10 = false := by decide +kernel
theorem gk_n12_156 : Nat.beq (gr_cls (gd_rc 156)) 12 = false := by decide +kernel
theorem gk_nt156 : (Nat.beq (gr_cls (gd_rc 156)) 11 || Nat.beq (gr_cls (gd_rc 156)) 12) = false := by decide +kernel
theorem gk_b12_156 : Nat.beq (gr_bk (gd_rc 156)) 12 = false := by decide +kernel
theorem gk_bk156 : (bif Nat.beq (gr_bk (gd_rc 156)) 12 then 12 else 11) = 11 := by decide +kernel
theorem gk_nc157 : Nat.beq 157 gd_mCode = false := by decide +kernel
theorem gk_ml157 : gr_ml (gd_rc 157) = 3 := by decide +kernel
theorem gk_ln157 : gr_lng (gd_rc 157) = [] := by decide +kernel
theorem gk_rk157 : gd_rk (gr_ret (gd_rc 157)) = 4 := by decide +kernel
theorem gk_cl157 : gr_cls (gd_rc 157) = 6 := by decide +kernel
theorem gk_n11_157 : Nat.beq (gr_cls (gd_rc 157)) 11 = false := by decide +kernel
theorem gk_n10_157 : Nat.beq (gr_cls (gd_rc 157)) 10 = false := by decide +kernel
theorem gk_n12_157 : Nat.beq (gr_cls (gd_rc 157)) 12 = false := by decide +kernel
theorem gk_nt157 : (Nat.beq (gr_cls (gd_rc 157)) 11 || Nat.beq (gr_cls (gd_rc 157)) 12) = false := by decide +kernel
theorem gk_b12_157 : Nat.beq (gr_bk (gd_rc 157)) 12 = false := by decide +kernel
theorem gk_bk157 : (bif Nat.beq (gr_bk (gd_rc 157)) 12 then 12 else 11) = 11 := by decide +kernel
theorem gk_nc158 : Nat.beq 158 gd_mCode = false := by decide +kernel
theorem gk_ml158 : gr_ml (gd_rc 158) = 3 := by decide +kernel
theorem gk_ln158 : gr_lng (gd_rc 158) = [] := by decide +kernel
theorem gk_rk158 : gd_rk (gr_ret (gd_rc 158)) = 1 := by decide +kernel
theorem gk_cl158 : gr_cls (gd_rc 158) = 6 := by decide +kernel
theorem gk_n11_158 : Nat.beq (gr_cls (gd_rc 158)) 11 = false := by decide +kernel
theorem gk_n10_158 : Nat.beq (gr_cls (gd_rc 158)) 10 = false := by decide +kernel
theorem gk_n12_158 : Nat.beq (gr_cls (gd_rc 158)) 12 = false := by decide +kernel
theorem gk_nt158 : (Nat.beq (gr_cls (gd_rc 158)) 11 || Nat.beq (gr_cls (gd_rc 158)) 12) = false := by decide +kernel
theorem gk_b12_158 : Nat.beq (gr_bk (gd_rc 158)) 12 = false := by decide +kernel
theorem gk_bk158 : (bif Nat.beq (gr_bk (gd_rc 158)) 12 then 12 else 11) = 11 := by decide +kernel
theorem gk_nc159 : Nat.beq 159 gd_mCode = false := by decide +kernel
theorem gk_ml159 : gr_ml (gd_rc 159) = 3 := by decide +kernel
theorem gk_ln159 : gr_lng (gd_rc 159) = [] := by decide +kernel
theorem gk_rk159 : gd_rk (gr_ret (gd_rc 159)) = 1 := by decide +kernel
theorem gk_cl159 : gr_cls (gd_rc 159) = 9 := by decide +kernel
theorem gk_n11_159 : Nat.beq (gr_cls (gd_rc 159)) 11 = false := by decide +kernel
theorem gk_n10_159 : Nat.beq (gr_cls (gd_rc 159)) 10 = false := by decide +kernel
theorem gk_n12_159 : Nat.beq (gr_cls (gd_rc 159)) 12 = false := by decide +kernel
theorem gk_nt159 : (Nat.beq (gr_cls (gd_rc 159)) 11 || Nat.beq (gr_cls (gd_rc 159)) 12) = false := by decide +kernel
theorem gk_b12_159 : Nat.beq (gr_bk (gd_rc 159)) 12 = false := by decide +kernel
theorem gk_bk159 : (bif Nat.beq (gr_bk (gd_rc 159)) 12 then 12 else 11) = 11 := by decide +kernel
theorem gk_nc160 : Nat.beq 160 gd_mCode = false := by decide +kernel
theorem gk_ml160 : gr_ml (gd_rc 160) = 1 := by decide +kernel
theorem gk_ln160 : gr_lng (gd_rc 160) = [] := by decide +kernel
theorem gk_rk160 : gd_rk (gr_ret (gd_rc 160)) = 0 := by decide +kernel
theorem gk_cl160 : gr_cls (gd_rc 160) = 2 := by decide +kernel
theorem gk_n11_160 : Nat.beq (gr_cls (gd_rc 160)) 11 = false := by decide +kernel
theorem gk_n10_160 : Nat.beq (gr_cls (gd_rc 160)) 10 = false := by decide +kernel
theorem gk_n12_160 : Nat.beq (gr_cls (gd_rc 160)) 12 = false := by decide +kernel
theorem gk_nt160 : (Nat.beq (gr_cls (gd_rc 160)) 11 || Nat.beq (gr_cls (gd_rc 160)) 12) = false := by decide +kernel
theorem gk_b12_160 : Nat.beq (gr_bk (gd_rc 160)) 12 = false := by decide +kernel
theorem gk_bk160 : (bif Nat.beq (gr_bk (gd_rc 160)) 12 then 12 else 11) = 11 := by decide +kernel
theorem gk_nc161 : Nat.beq 161 gd_mCode = false := by decide +kernel
theorem gk_ml161 : gr_ml (gd_rc 161) = 3 := by decide +kernel
theorem gk_ln161 : gr_lng (gd_rc 161) = [] := by decide +kernel
theorem gk_rk161 : gd_rk (gr_ret (gd_rc 161)) = 4 := by decide +kernel
theorem gk_cl161 : gr_cls (gd_rc 161) = 2 := by decide +kernel
theorem gk_n11_161 : Nat.beq (gr_cls (gd_rc 161)) 11 = false := by decide +kernel
theorem gk_n10_161 : Nat.beq (gr_cls (gd_rc 161)) 10 = false := by decide +kernel
theorem gk_n12_161 : Nat.beq (gr_cls (gd_rc 161)) 12 = false := by decide +kernel
theorem gk_nt161 : (Nat.beq (gr_cls (gd_rc 161)) 11 || Nat.beq (gr_cls (gd_rc 161)) 12) = false := by decide +kernel
theorem gk_b12_161 : Nat.beq (gr_bk (gd_rc 161)) 12 = false := by decide +kernel
theorem gk_bk161 : (bif Nat.beq (gr_bk (gd_rc 161)) 12 then 12 else 11) = 11 := by decide +kernel
theorem gk_nc162 : Nat.beq 162 gd_mCode = false := by decide +kernel
theorem gk_ml162 : gr_ml (gd_rc 162) = 6 := by decide +kernel
theorem gk_ln162 : gr_lng (gd_rc 162) = [] := by decide +kernel
theorem gk_rk162 : gd_rk (gr_ret (gd_rc 162)) = 0 := by decide +kernel
theorem gk_cl162 : gr_cls (gd_rc 162) = 2 := by decide +kernel
theorem gk_n11_162 : Nat.beq (gr_cls (gd_rc 162)) 11 = false := by decide +kernel
theorem gk_n10_162 : Nat.beq (gr_cls (gd_rc 162)) 10 = false := by decide +kernel
theorem gk_n12_162 : Nat.beq (gr_cls (gd_rc 162)) 12 = false := by decide +kernel
theorem gk_nt162 : (Nat.beq (gr_cls (gd_rc 162)) 11 || Nat.beq (gr_cls (gd_rc 162)) 12) = false := by decide +kernel
theorem gk_b12_162 : Nat.beq (gr_bk (gd_rc 162)) 12 = false := by decide +kernel
theorem gk_bk162 : (bif Nat.beq (gr_bk (gd_rc 162)) 12 then 12 else 11) = 11 := by decide +kernel
theorem gk_nc163 : Nat.beq 163 gd_mCode = false := by decide +kernel
theorem gk_ml163 : gr_ml (gd_rc 163) = 9 := by decide +kernel
theorem gk_ln163 : gr_lng (gd_rc 163) = [] := by decide +kernel
theorem gk_rk163 : gd_rk (gr_ret (gd_rc 163)) = 0 := by decide +kernel
theorem gk_cl163 : gr_cls (gd_rc 163) = 6 := by decide +kernel
theorem gk_n11_163 : Nat.beq (gr_cls (gd_rc 163)) 11 = false := by decide +kernel
theorem gk_n10_163 : Nat.beq (gr_cls (gd_rc 163)) 10 = false := by decide +kernel
theorem gk_n12_163 : Nat.beq (gr_cls (gd_rc 163)) 12 = false := by decide +kernel
theorem gk_nt163 : (Nat.beq (gr_cls (gd_rc 163)) 11 || Nat.beq (gr_cls (gd_rc 163)) 12) = false := by decide +kernel
theorem gk_b12_163 : Nat.beq (gr_bk (gd_rc 163)) 12 = false := by decide +kernel
theorem gk_bk163 : (bif Nat.beq (gr_bk (gd_rc 163)) 12 then 12 else 11) = 11 := by decide +kernel
theorem gk_nc164 : Nat.beq 164 gd_mCode = false := by decide +kernel
theorem gk_ml164 : gr_ml (gd_rc 164) = 5 := by decide +kernel
theorem gk_ln164 : gr_lng (gd_rc 164) = [] := by decide +kernel
theorem gk_rk164 : gd_rk (gr_ret (gd_rc 164)) = 0 := by decide +kernel
theorem gk_cl164 : gr_cls (gd_rc 164) = 6 := by decide +kernel
theorem gk_n11_164 : Nat.beq (gr_cls (gd_rc 164)) 11 = false := by decide +kernel
theorem gk_n10_164 : Nat.beq (gr_cls (gd_rc 164)) 10 = false := by decide +kernel
theorem gk_n12_164 : Nat.beq (gr_cls (gd_rc 164)) 12 = false := by decide +kernel
theorem gk_nt164 : (Nat.beq (gr_cls (gd_rc 164)) 11 || Nat.beq (gr_cls (gd_rc 164)) 12) = false := by decide +kernel
theorem gk_b12_164 : Nat.beq (gr_bk (gd_rc 164)) 12 = false := by decide +kernel
theorem gk_bk164 : (bif Nat.beq (gr_bk (gd_rc 164)) 12 then 12 else 11) = 11 := by decide +kernel
theorem gk_nc165 : Nat.beq 165 gd_mCode = false := by decide +kernel
theorem gk_ml165 : gr_ml (gd_rc 165) = 2 := by decide +kernel
theorem gk_ln165 : gr_lng (gd_rc 165) = [] := by decide +kernel
theorem gk_rk165 : gd_rk (gr_ret (gd_rc 165)) = 1 := by decide +kernel
theorem gk_cl165 : gr_cls (gd_rc 165) = 6 := by decide +kernel
theorem gk_n11_165 : Nat.beq (gr_cls (gd_rc 165)) 11 = false := by decide +kernel
theorem gk_n10_165 : Nat.beq (gr_cls (gd_rc 165)) 10 = false := by decide +kernel
theorem gk_n12_165 : Nat.beq (gr_cls (gd_rc 165)) 12 = false := by decide +kernel
theorem gk_nt165 : (Nat.beq (gr_cls (gd_rc 165)) 11 || Nat.beq (gr_cls (gd_rc 165)) 12) = false := by decide +kernel
theorem gk_b12_165 : Nat.beq (gr_bk (gd_rc 165)) 12 = false := by decide +kernel
theorem gk_bk165 : (bif Nat.beq (gr_bk (gd_rc 165)) 12 then 12 else 11) = 11 := by decide +kernel
theorem gk_nc166 : Nat.beq 166 gd_mCode = false := by decide +kernel
theorem gk_ml166 : gr_ml (gd_rc 166) = 4 := by decide +kernel
theorem gk_ln166 : gr_lng (gd_rc 166) = [] := by decide +kernel
theorem gk_rk166 : gd_rk (gr_ret (gd_rc 166)) = 4 := by decide +kernel
theorem gk_cl166 : gr_cls (gd_rc 166) = 9 := by decide +kernel
theorem gk_n11_166 : Nat.beq (gr_cls (gd_rc 166)) 11 = false := by decide +kernel
theorem gk_n10_166 : Nat.beq (gr_cls (gd_rc 166)) 10 = false := by decide +kernel
theorem gk_n12_166 : Nat.beq (gr_cls (gd_rc 166)) 12 = false := by decide +kernel
theorem gk_nt166 : (Nat.beq (gr_cls (gd_rc 166)) 11 || Nat.beq (gr_cls (gd_rc 166)) 12) = false := by decide +kernel
theorem gk_b12_166 : Nat.beq (gr_bk (gd_rc 166)) 12 = false := by decide +kernel
theorem gk_bk166 : (bif Nat.beq (gr_bk (gd_rc 166)) 12 then 12 else 11) = 11 := by decide +kernel
theorem gk_nc167 : Nat.beq 167 gd_mCode = false := by decide +kernel
theorem gk_ml167 : gr_ml (gd_rc 167) = 7 := by decide +kernel
theorem gk_ln167 : gr_lng (gd_rc 167) = [] := by decide +kernel
theorem gk_rk167 : gd_rk (gr_ret (gd_rc 167)) = 0 := by decide +kernel
theorem gk_cl167 : gr_cls (gd_rc 167) = 9 := by decide +kernel
theorem gk_n11_167 : Nat.beq (gr_cls (gd_rc 167)) 11 = false := by decide +kernel
theorem gk_n10_167 : Nat.beq (gr_cls (gd_rc 167)) 10 = false := by decide +kernel
theorem gk_n12_167 : Nat.beq (gr_cls (gd_rc 167)) 12 = false := by decide +kernel
theorem gk_nt167 : (Nat.beq (gr_cls (gd_rc 167)) 11 || Nat.beq (gr_cls (gd_rc 167)) 12) = false := by decide +kernel
theorem gk_b12_167 : Nat.beq (gr_bk (gd_rc 167)) 12 = false := by decide +kernel
theorem gk_bk167 : (bif Nat.beq (gr_bk (gd_rc 167)) 12 then 12 else 11) = 11 := by decide +kernel
theorem gk_nc168 : Nat.beq 168 gd_mCode = false := by decide +kernel
theorem gk_ml168 : gr_ml (gd_rc 168) = 2 := by decide +kernel
theorem gk_ln168 : gr_lng (gd_rc 168) = [] := by decide +kernel
theorem gk_rk168 : gd_rk (gr_ret (gd_rc 168)) = 1 := by decide +kernel
theorem gk_cl168 : gr_cls (gd_rc 168) = 9 := by decide +kernel
theorem gk_n11_168 : Nat.beq (gr_cls (gd_rc 168)) 11 = false := by decide +kernel
theorem gk_n10_168 : Nat.beq (gr_cls (gd_rc 168)) 10 = false := by decide +kernel
theorem gk_n12_168 : Nat.beq (gr_cls (gd_rc 168)) 12 = false := by decide +kernel
theorem gk_nt168 : (Nat.beq (gr_cls (gd_rc 168)) 11 || Nat.beq (gr_cls (gd_rc 168)) 12) = false := by decide +kernel
theorem gk_b12_168 : Nat.beq (gr_bk (gd_rc 168)) 12 = false := by decide +kernel
theorem gk_bk168 : (bif Nat.beq (gr_bk (gd_rc 168)) 12 then 12 else 11) = 11 := by decide +kernel
theorem gk_nc169 : Nat.beq 169 gd_mCode = false := by decide +kernel
theorem gk_ml169 : gr_ml (gd_rc 169) = 4 := by decide +kernel
theorem gk_ln169 : gr_lng (gd_rc 169) = [] := by decide +kernel
theorem gk_rk169 : gd_rk (gr_ret (gd_rc 169)) = 1 := by decide +kernel
theorem gk_cl169 : gr_cls (gd_rc 169) = 2 := by decide +kernel
theorem gk_n11_169 : Nat.beq (gr_cls (gd_rc 169)) 11 = false := by decide +kernel
theorem gk_n10_169 : Nat.beq (gr_cls (gd_rc 169)) 10 = false := by decide +kernel
theorem gk_n12_169 : Nat.beq (gr_cls (gd_rc 169)) 12 = false := by decide +kernel
theorem gk_nt169 : (Nat.beq (gr_cls (gd_rc 169)) 11 || Nat.beq (gr_cls (gd_rc 169)) 12) = false := by decide +kernel
theorem gk_b12_169 : Nat.beq (gr_bk (gd_rc 169)) 12 = false := by decide +kernel
theorem gk_bk169 : (bif Nat.beq (gr_bk (gd_rc 169)) 12 then 12 else 11) = 11 := by decide +kernel
theorem gk_nc170 : Nat.beq 170 gd_mCode = false := by decide +kernel
theorem gk_ml170 : gr_ml (gd_rc 170) = 7 := by decide +kernel
theorem gk_ln170 : gr_lng (gd_rc 170) = [] := by decide +kernel
theorem gk_rk170 : gd_rk (gr_ret (gd_rc 170)) = 0 := by decide +kernel
theorem gk_cl170 : gr_cls (gd_rc 170) = 2 := by decide +kernel
theorem gk_n11_170 : Nat.beq (gr_cls (gd_rc 170)) 11 = false := by decide +kernel
theorem gk_n10_170 : Nat.beq (gr_cls (gd_rc 170)) 10 = false := by decide +kernel
theorem gk_n12_170 : Nat.beq (gr_cls (gd_rc 170)) 12 = false := by decide +kernel
theorem gk_nt170 : (Nat.beq (gr_cls (gd_rc 170)) 11 || Nat.beq (gr_cls (gd_rc 170)) 12) = false := by decide +kernel
theorem gk_b12_170 : Nat.beq (gr_bk (gd_rc 170)) 12 = false := by decide +kernel
theorem gk_bk170 : (bif Nat.beq (gr_bk (gd_rc 170)) 12 then 12 else 11) = 11 := by decide +kernel
theorem gk_nc171 : Nat.beq 171 gd_mCode = false := by decide +kernel
theorem gk_ml171 : gr_ml (gd_rc 171) = 1 := by decide +kernel
theorem gk_ln171 : gr_lng (gd_rc 171) = [] := by decide +kernel
theorem gk_rk171 : gd_rk (gr_ret (gd_rc 171)) = 0 := by decide +kernel
theorem gk_cl171 : gr_cls (gd_rc 171) = 6 := by decide +kernel
theorem gk_n11_171 : Nat.beq (gr_cls (gd_rc 171)) 11 = false := by decide +kernel
theorem gk_n10_171 : Nat.beq (gr_cls (gd_rc 171)) 10 = false := by decide +kernel
theorem gk_n12_171 : Nat.beq (gr_cls (gd_rc 171)) 12 = false := by decide +kernel
theorem gk_nt171 : (Nat.beq (gr_cls (gd_rc 171)) 11 || Nat.beq (gr_cls (gd_rc 171)) 12) = false := by decide +kernel
theorem gk_b12_171 : Nat.beq (gr_bk (gd_rc 171)) 12 = false := by decide +kernel
theorem gk_bk171 : (bif Nat.beq (gr_bk (gd_rc 171)) 12 then 12 else 11) = 11 := by decide +kernel
theorem gk_nc172 : Nat.beq 172 gd_mCode = false := by decide +kernel
theorem gk_ml172 : gr_ml (gd_rc 172) = 3 := by decide +kernel
theorem gk_ln172 : gr_lng (gd_rc 172) = [] := by decide +kernel
theorem gk_rk172 : gd_rk (gr_ret (gd_rc 172)) = 4 := by decide +kernel
theorem gk_cl172 : gr_cls (gd_rc 172) = 2 := by decide +kernel
theorem gk_n11_172 : Nat.beq (gr_cls (gd_rc 172)) 11 = false := by decide +kernel
theorem gk_n10_172 : Nat.beq (gr_cls (gd_rc 172)) 10 = false := by decide +kernel
theorem gk_n12_172 : Nat.beq (gr_cls (gd_rc 172)) 12 = false := by decide +kernel
theorem gk_nt172 : (Nat.beq (gr_cls (gd_rc 172)) 11 || Nat.beq (gr_cls (gd_rc 172)) 12) = false := by decide +kernel
theorem gk_b12_172 : Nat.beq (gr_bk (gd_rc 172)) 12 = false := by decide +kernel
theorem gk_bk172 : (bif Nat.beq (gr_bk (gd_rc 172)) 12 then 12 else 11) = 11 := by decide +kernel
theorem gk_nc173 : Nat.beq 173 gd_mCode = false := by decide +kernel
theorem gk_ml173 : gr_ml (gd_rc 173) = 5 := by decide +kernel
theorem gk_ln173 : gr_lng (gd_rc 173) = [] := by decide +kernel
theorem gk_rk173 : gd_rk (gr_ret (gd_rc 173)) = 1 := by decide +kernel
theorem gk_cl173 : gr_cls (gd_rc 173) = 6 := by decide +kernel
theorem gk_n11_173 : Nat.beq (gr_cls (gd_rc 173)) 11 = false := by decide +kernel
theorem gk_n10_173 : Nat.beq (gr_cls (gd_rc 173)) 10 = false := by decide +kernel
theorem gk_n12_173 : Nat.beq (gr_cls (gd_rc 173)) 12 = false := by decide +kernel
theorem gk_nt173 : (Nat.beq (gr_cls (gd_rc 173)) 11 || Nat.beq (gr_cls (gd_rc 173)) 12) = false := by decide +kernel
theorem gk_b12_173 : Nat.beq (gr_bk (gd_rc 173)) 12 = false := by decide +kernel
theorem gk_bk173 : (bif Nat.beq (gr_bk (gd_rc 173)) 12 then 12 else 11) = 11 := by decide +kernel
theorem gk_nc174 : Nat.beq 174 gd_mCode = false := by decide +kernel
theorem gk_ml174 : gr_ml (gd_rc 174) = 4 := by decide +kernel
theorem gk_ln174 : gr_lng (gd_rc 174) = [] := by decide +kernel
theorem gk_rk174 : gd_rk (gr_ret (gd_rc 174)) = 0 := by decide +kernel
theorem gk_cl174 : gr_cls (gd_rc 174) = 9 := by decide +kernel
theorem gk_n11_174 : Nat.beq (gr_cls (gd_rc 174)) 11 = false := by decide +kernel
theorem gk_n10_174 : Nat.beq (gr_cls (gd_rc 174)) 10 = false := by decide +kernel
theorem gk_n12_174 : Nat.beq (gr_cls (gd_rc 174)) 12 = false := by decide +kernel
theorem gk_nt174 : (Nat.beq (gr_cls (gd_rc 174)) 11 || Nat.beq (gr_cls (gd_rc 174)) 12) = false := by decide +kernel
theorem gk_b12_174 : Nat.beq (gr_bk (gd_rc 174)) 12 = false := by decide +kernel
theorem gk_bk174 : (bif Nat.beq (gr_bk (gd_rc 174)) 12 then 12 else 11) = 11 := by decide +kernel
theorem gk_nc175 : Nat.beq 175 gd_mCode = false := by decide +kernel
theorem gk_ml175 : gr_ml (gd_rc 175) = 6 := by decide +kernel
theorem gk_ln175 : gr_lng (gd_rc 175) = [] := by decide +kernel
theorem gk_rk175 : gd_rk (gr_ret (gd_rc 175)) = 1 := by decide +kernel
theorem gk_cl175 : gr_cls (gd_rc 175) = 9 := by decide +kernel
theorem gk_n11_175 : Nat.beq (gr_cls (gd_rc 175)) 11 = false := by decide +kernel
theorem gk_n10_175 : Nat.beq (gr_cls (gd_rc 175)) 10 = false := by decide +kernel
theorem gk_n12_175 : Nat.beq (gr_cls (gd_rc 175)) 12 = false := by decide +kernel
theorem gk_nt175 : (Nat.beq (gr_cls (gd_rc 175)) 11 || Nat.beq (gr_cls (gd_rc 175)) 12) = false := by decide +kernel
theorem gk_b12_175 : Nat.beq (gr_bk (gd_rc 175)) 12 = false := by decide +kernel
theorem gk_bk175 : (bif Nat.beq (gr_bk (gd_rc 175)) 12 then 12 else 11) = 11 := by decide +kernel
theorem gk_nc176 : Nat.beq 176 gd_mCode = false := by decide +kernel
theorem gk_ml176 : gr_ml (gd_rc 176) = 3 := by decide +kernel
theorem gk_ln176 : gr_lng (gd_rc 176) = [] := by decide +kernel
theorem gk_rk176 : gd_rk (gr_ret (gd_rc 176)) = 1 := by decide +kernel
theorem gk_cl176 : gr_cls (gd_rc 176) = 6 := by decide +kernel
theorem gk_n11_176 : Nat.beq (gr_cls (gd_rc 176)) 11 = false := by decide +kernel
theorem gk_n10_176 : Nat.beq (gr_cls (gd_rc 176)) 10 = false := by decide +kernel
theorem gk_n12_176 : Nat.beq (gr_cls (gd_rc 176)) 12 = false := by decide +kernel
theorem gk_nt176 : (Nat.beq (gr_cls (gd_rc 176)) 11 || Nat.beq (gr_cls (gd_rc 176)) 12) = false := by decide +kernel
theorem gk_b12_176 : Nat.beq (gr_bk (gd_rc 176)) 12 = false := by decide +kernel
theorem gk_bk176 : (bif Nat.beq (gr_bk (gd_rc 176)) 12 then 12 else 11) = 11 := by decide +kernel
theorem gk_nc177 : Nat.beq 177 gd_mCode = false := by decide +kernel
theorem gk_ml177 : gr_ml (gd_rc 177) = 3 := by decide +kernel
theorem gk_ln177 : gr_lng (gd_rc 177) = [] := by decide +kernel
theorem gk_rk177 : gd_rk (gr_ret (gd_rc 177)) = 1 := by decide +kernel
theorem gk_cl177 : gr_cls (gd_rc 177) = 9 := by decide +kernel
theorem gk_n11_177 : Nat.beq (gr_cls (gd_rc 177)) 11 = false := by decide +kernel
theorem gk_n10_177 : Nat.beq (gr_cls (gd_rc 177)) 10 = false := by decide +kernel
theorem gk_n12_177 : Nat.beq (gr_cls (gd_rc 177)) 12 = false := by decide +kernel
theorem gk_nt177 : (Nat.beq (gr_cls (gd_rc 177)) 11 || Nat.beq (gr_cls (gd_rc 177)) 12) = false := by decide +kernel
theorem gk_b12_177 : Nat.beq (gr_bk (gd_rc 177)) 12 = false := by decide +kernel
theorem gk_bk177 : (bif Nat.beq (gr_bk (gd_rc 177)) 12 then 12 else 11) = 11 := by decide +kernel
theorem gk_nc178 : Nat.beq 178 gd_mCode = false := by decide +kernel
theorem gk_ml178 : gr_ml (gd_rc 178) = 5 := by decide +kernel
theorem gk_ln178 : gr_lng (gd_rc 178) = [] := by decide +kernel
theorem gk_rk178 : gd_rk (gr_ret (gd_rc 178)) = 1 := by decide +kernel
theorem gk_cl178 : gr_cls (gd_rc 178) = 6 := by decide +kernel
theorem gk_n11_178 : Nat.beq (gr_cls (gd_rc 178)) 11 = false := by decide +kernel
theorem gk_n10_178 : Nat.beq (gr_cls (gd_rc 178)) 10 = false := by decide +kernel
theorem gk_n12_178 : Nat.beq (gr_cls (gd_rc 178)) 12 = false := by decide +kernel
theorem gk_nt178 : (Nat.beq (gr_cls (gd_rc 178)) 11 || Nat.beq (gr_cls (gd_rc 178)) 12) = false := by decide +kernel
theorem gk_b12_178 : Nat.beq (gr_bk (gd_rc 178)) 12 = false := by decide +kernel
theorem gk_bk178 : (bif Nat.beq (gr_bk (gd_rc 178)) 12 then 12 else 11) = 11 := by decide +kernel
theorem gk_nc179 : Nat.beq 179 gd_mCode = false := by decide +kernel
theorem gk_ml179 : gr_ml (gd_rc 179) = 6 := by decide +kernel
theorem gk_ln179 : gr_lng (gd_rc 179) = [] := by decide +kernel
theorem gk_rk179 : gd_rk (gr_ret (gd_rc 179)) = 1 := by decide +kernel
theorem gk_cl179 : gr_cls (gd_rc 179) = 6 := by decide +kernel
theorem gk_n11_179 : Nat.beq (gr_cls (gd_rc 179)) 11 = false := by decide +kernel
theorem gk_n10_179 : Nat.beq (gr_cls (gd_rc 179)) 10 = false := by decide +kernel
theorem gk_n12_179 : Nat.beq (gr_cls (gd_rc 179)) 12 = false := by decide +kernel
theorem gk_nt179 : (Nat.beq (gr_cls (gd_rc 179)) 11 || Nat.beq (gr_cls (gd_rc 179)) 12) = false := by decide +kernel
theorem gk_b12_179 : Nat.beq (gr_bk (gd_rc 179)) 12 = false := by decide +kernel
theorem gk_bk179 : (bif Nat.beq (gr_bk (gd_rc 179)) 12 then 12 else 11) = 11 := by decide +kernel
theorem gk_nc180 : Nat.beq 180 gd_mCode = false := by decide +kernel
theorem gk_ml180 : gr_ml (gd_rc 180) = 4 := by decide +kernel
theorem gk_ln180 : gr_lng (gd_rc 180) = [] := by decide +kernel
theorem gk_rk180 : gd_rk (gr_ret (gd_rc 180)) = 1 := by decide +kernel
theorem gk_cl180 : gr_cls (gd_rc 180) = 6 := by decide +kernel
theorem gk_n11_180 : Nat.beq (gr_cls (gd_rc 180)) 11 = false := by decide +kernel
theorem gk_n10_180 : Nat.beq (gr_cls (gd_rc 180)) 10 = false := by decide +kernel
theorem gk_n12_180 : Nat.beq (gr_cls (gd_rc 180)) 12 = false := by decide +kernel
theorem gk_nt180 : (Nat.beq (gr_cls (gd_rc 180)) 11 || Nat.beq (gr_cls (gd_rc 180)) 12) = false := by decide +kernel
theorem gk_b12_180 : Nat.beq (gr_bk (gd_rc 180)) 12 = false := by decide +kernel
theorem gk_bk180 : (bif Nat.beq (gr_bk (gd_rc 180)) 12 then 12 else 11) = 11 := by decide +kernel
theorem gk_nc181 : Nat.beq 181 gd_mCode = false := by decide +kernel
theorem gk_ml181 : gr_ml (gd_rc 181) = 3 := by decide +kernel
theorem gk_ln181 : gr_lng (gd_rc 181) = [] := by decide +kernel
theorem gk_rk181 : gd_rk (gr_ret (gd_rc 181)) = 1 := by decide +kernel
theorem gk_cl181 : gr_cls (gd_rc 181) = 6 := by decide +kernel
theorem gk_n11_181 : Nat.beq (gr_cls (gd_rc 181)) 11 = false := by decide +kernel
theorem gk_n10_181 : Nat.beq (gr_cls (gd_rc 181)) 10 = false := by decide +kernel
theorem gk_n12_181 : Nat.beq (gr_cls (gd_rc 181)) 12 = false := by decide +kernel
theorem gk_nt181 : (Nat.beq (gr_cls (gd_rc 181)) 11 || Nat.beq (gr_cls (gd_rc 181)) 12) = false := by decide +kernel
theorem gk_b12_181 : Nat.beq (gr_bk (gd_rc 181)) 12 = false := by decide +kernel
theorem gk_bk181 : (bif Nat.beq (gr_bk (gd_rc 181)) 12 then 12 else 11) = 11 := by decide +kernel
theorem gk_nc182 : Nat.beq 182 gd_mCode = false := by decide +kernel
theorem gk_ml182 : gr_ml (gd_rc 182) = 7 := by decide +kernel
theorem gk_ln182 : gr_lng (gd_rc 182) = [] := by decide +kernel
theorem gk_rk182 : gd_rk (gr_ret (gd_rc 182)) = 1 := by decide +kernel
theorem gk_cl182 : gr_cls (gd_rc 182) = 9 := by decide +kernel
theorem gk_n11_182 : Nat.beq (gr_cls (gd_rc 182)) 11 = false := by decide +kernel
theorem gk_n10_182 : Nat.beq (gr_cls (gd_rc 182)) 10 = false := by decide +kernel
theorem gk_n12_182 : Nat.beq (gr_cls (gd_rc 182)) 12 = false := by decide +kernel
theorem gk_nt182 : (Nat.beq (gr_cls (gd_rc 182)) 11 || Nat.beq (gr_cls (gd_rc 182)) 12) = false := by decide +kernel
theorem gk_b12_182 : Nat.beq (gr_bk (gd_rc 182)) 12 = false := by decide +kernel
theorem gk_bk182 : (bif Nat.beq (gr_bk (gd_rc 182)) 12 then 12 else 11) = 11 := by decide +kernel
theorem gk_nc183 : Nat.beq 183 gd_mCode = false := by decide +kernel
theorem gk_ml183 : gr_ml (gd_rc 183) = 3 := by decide +kernel
theorem gk_ln183 : gr_lng (gd_rc 183) = [] := by decide +kernel
theorem gk_rk183 : gd_rk (gr_ret (gd_rc 183)) = 1 := by decide +kernel
theorem gk_cl183 : gr_cls (gd_rc 183) = 9 := by decide +kernel
theorem gk_n11_183 : Nat.beq (gr_cls (gd_rc 183)) 11 = false := by decide +kernel
theorem gk_n10_183 : Nat.beq (gr_cls (gd_rc 183)) 10 = false := by decide +kernel
theorem gk_n12_183 : Nat.beq (gr_cls (gd_rc 183)) 12 = false := by decide +kernel
theorem gk_nt183 : (Nat.beq (gr_cls (gd_rc 183)) 11 || Nat.beq (gr_cls (gd_rc 183)) 12) = false := by decide +kernel
theorem gk_b12_183 : Nat.beq (gr_bk (gd_rc 183)) 12 = false := by decide +kernel
theorem gk_bk183 : (bif Nat.beq (gr_bk (gd_rc 183)) 12 then 12 else 11) = 11 := by decide +kernel
theorem gk_nc184 : Nat.beq 184 gd_mCode = false := by decide +kernel
theorem gk_ml184 : gr_ml (gd_rc 184) = 5 := by decide +kernel
theorem gk_ln184 : gr_lng (gd_rc 184) = [] := by decide +kernel
theorem gk_rk184 : gd_rk (gr_ret (gd_rc 184)) = 1 := by decide +kernel
theorem gk_cl184 : gr_cls (gd_rc 184) = 6 := by decide +kernel
theorem gk_n11_184 : Nat.beq (gr_cls (gd_rc 184)) 11 = false := by decide +kernel
theorem gk_n10_184 : Nat.beq (gr_cls (gd_rc 184)) 10 = false := by decide +kernel
theorem gk_n12_184 : Nat.beq (gr_cls (gd_rc 184)) 12 = false := by decide +kernel
theorem gk_nt184 : (Nat.beq (gr_cls (gd_rc 184)) 11 || Nat.beq (gr_cls (gd_rc 184)) 12) = false := by decide +kernel
theorem gk_b12_184 : Nat.beq (gr_bk (gd_rc 184)) 12 = false := by decide +kernel
theorem gk_bk184 : (bif Nat.beq (gr_bk (gd_rc 184)) 12 then 12 else 11) = 11 := by decide +kernel
theorem gk_nc185 : Nat.beq 185 gd_mCode = false := by decide +kernel
theorem gk_ml185 : gr_ml (gd_rc 185) = 5 := by decide +kernel
theorem gk_ln185 : gr_lng (gd_rc 185) = [] := by decide +kernel
theorem gk_rk185 : gd_rk (gr_ret (gd_rc 185)) = 1 := by decide +kernel
theorem gk_cl185 : gr_cls (gd_rc 185) = 9 := by decide +kernel
theorem gk_n11_185 : Nat.beq (gr_cls (gd_rc 185)) 11 = false := by decide +kernel
theorem gk_n10_185 : Nat.beq (gr_cls (gd_rc 185)) 10 = false := by decide +kernel
theorem gk_n12_185 : Nat.beq (gr_cls (gd_rc 185)) 12 = false := by decide +kernel
theorem gk_nt185 : (Nat.beq (gr_cls (gd_rc 185)) 11 || Nat.beq (gr_cls (gd_rc 185)) 12) = false := by decide +kernel
theorem gk_b12_185 : Nat.beq (gr_bk (gd_rc 185)) 12 = false := by decide +kernel
theorem gk_bk185 : (bif Nat.beq (gr_bk (gd_rc 185)) 12 then 12 else 11) = 11 := by decide +kernel
theorem gk_nc186 : Nat.beq 186 gd_mCode = false := by decide +kernel
theorem gk_ml186 : gr_ml (gd_rc 186) = 3 := by decide +kernel
theorem gk_ln186 : gr_lng (gd_rc 186) = [] := by decide +kernel
theorem gk_rk186 : gd_rk (gr_ret (gd_rc 186)) = 1 := by decide +kernel
theorem gk_cl186 : gr_cls (gd_rc 186) = 6 := by decide +kernel
theorem gk_n11_186 : Nat.beq (gr_cls (gd_rc 186)) 11 = false := by decide +kernel
theorem gk_n10_186 : Nat.beq (gr_cls (gd_rc 186)) 10 = false := by decide +kernel
theorem gk_n12_186 : Nat.beq (gr_cls (gd_rc 186)) 12 = false := by decide +kernel
theorem gk_nt186 : (Nat.beq (gr_cls (gd_rc 186)) 11 || Nat.beq (gr_cls (gd_rc 186)) 12) = false := by decide +kernel
theorem gk_b12_186 : Nat.beq (gr_bk (gd_rc 186)) 12 = false := by decide +kernel
theorem gk_bk186 : (bif Nat.beq (gr_bk (gd_rc 186)) 12 then 12 else 11) = 11 := by decide +kernel
theorem gk_nc187 : Nat.beq 187 gd_mCode = false := by decide +kernel
theorem gk_ml187 : gr_ml (gd_rc 187) = 2 := by decide +kernel
theorem gk_ln187 : gr_lng (gd_rc 187) = [] := by decide +kernel
theorem gk_rk187 : gd_rk (gr_ret (gd_rc 187)) = 1 := by decide +kernel
theorem gk_cl187 : gr_cls (gd_rc 187) = 6 := by decide +kernel
theorem gk_n11_187 : Nat.beq (gr_cls (gd_rc 187)) 11 = false := by decide +kernel
theorem gk_n10_187 : Nat.beq (gr_cls (gd_rc 187)) 10 = false := by decide +kernel
theorem gk_n12_187 : Nat.beq (gr_cls (gd_rc 187)) 12 = false := by decide +kernel
theorem gk_nt187 : (Nat.beq (gr_cls (gd_rc 187)) 11 || Nat.beq (gr_cls (gd_rc 187)) 12) = false := by decide +kernel
theorem gk_b12_187 : Nat.beq (gr_bk (gd_rc 187)) 12 = false := by decide +kernel
theorem gk_bk187 : (bif Nat.beq (gr_bk (gd_rc 187)) 12 then 12 else 11) = 11 := by decide +kernel
theorem gk_nc188 : Nat.beq 188 gd_mCode = false := by decide +kernel
theorem gk_ml188 : gr_ml (gd_rc 188) = 4 := by decide +kernel
theorem gk_ln188 : gr_lng (gd_rc 188) = [] := by decide +kernel
theorem gk_rk188 : gd_rk (gr_ret (gd_rc 188)) = 1 := by decide +kernel
theorem gk_cl188 : gr_cls (gd_rc 188) = 9 := by decide +kernel
theorem gk_n11_188 : Nat.beq (gr_cls (gd_rc 188)) 11 = false := by decide +kernel
theorem gk_n10_188 : Nat.beq (gr_cls (gd_rc 188)) 10 = false := by decide +kernel
theorem gk_n12_188 : Nat.beq (gr_cls (gd_rc 188)) 12 = false := by decide +kernel
theorem gk_nt188 : (Nat.beq (gr_cls (gd_rc 188)) 11 || Nat.beq (gr_cls (gd_rc 188)) 12) = false := by decide +kernel
theorem gk_b12_188 : Nat.beq (gr_bk (gd_rc 188)) 12 = false := by decide +kernel
theorem gk_bk188 : (bif Nat.beq (gr_bk (gd_rc 188)) 12 then 12 else 11) = 11 := by decide +kernel
theorem gk_nc189 : Nat.beq 189 gd_mCode = false := by decide +kernel
theorem gk_ml189 : gr_ml (gd_rc 189) = 2 := by decide +kernel
theorem gk_ln189 : gr_lng (gd_rc 189) = [] := by decide +kernel
theorem gk_rk189 : gd_rk (gr_ret (gd_rc 189)) = 1 := by decide +kernel
theorem gk_cl189 : gr_cls (gd_rc 189) = 6 := by decide +kernel
theorem gk_n11_189 : Nat.beq (gr_cls (gd_rc 189)) 11 = false := by decide +kernel
theorem gk_n10_189 : Nat.beq (gr_cls (gd_rc 189)) 10 = false := by decide +kernel
theorem gk_n12_189 : Nat.beq (gr_cls (gd_rc 189)) 12 = false := by decide +kernel
theorem gk_nt189 : (Nat.beq (gr_cls (gd_rc 189)) 11 || Nat.beq (gr_cls (gd_rc 189)) 12) = false := by decide +kernel
theorem gk_b12_189 : Nat.beq (gr_bk (gd_rc 189)) 12 = false := by decide +kernel
theorem gk_bk189 : (bif Nat.beq (gr_bk (gd_rc 189)) 12 then 12 else 11) = 11 := by decide +kernel
theorem gk_nc190 : Nat.beq 190 gd_mCode = false := by decide +kernel
theorem gk_ml190 : gr_ml (gd_rc 190) = 2 := by decide +kernel
theorem gk_ln190 : gr_lng (gd_rc 190) = [] := by decide +kernel
theorem gk_rk190 : gd_rk (gr_ret (gd_rc 190)) = 1 := by decide +kernel
theorem gk_cl190 : gr_cls (gd_rc 190) = 9 := by decide +kernel
theorem gk_n11_190 : Nat.beq (gr_cls (gd_rc 190)) 11 = false := by decide +kernel
theorem gk_n10_190 : Nat.beq (gr_cls (gd_rc 190)) 10 = false := by decide +kernel
theorem gk_n12_190 : Nat.beq (gr_cls (gd_rc 190)) 12 = false := by decide +kernel
theorem gk_nt190 : (Nat.beq (gr_cls (gd_rc 190)) 11 || Nat.beq (gr_cls (gd_rc 190)) 12) = false := by decide +kernel
theorem gk_b12_190 : Nat.beq (gr_bk (gd_rc 190)) 12 = false := by decide +kernel
theorem gk_bk190 : (bif Nat.beq (gr_bk (gd_rc 190)) 12 then 12 else 11) = 11 := by decide +kernel
theorem gk_nc191 : Nat.beq 191 gd_mCode = false := by decide +kernel
theorem gk_ml191 : gr_ml (gd_rc 191) = 4 := by decide +kernel
theorem gk_ln191 : gr_lng (gd_rc 191) = [] := by decide +kernel
theorem gk_rk191 : gd_rk (gr_ret (gd_rc 191)) = 4 := by decide +kernel
theorem gk_cl191 : gr_cls (gd_rc 191) = 10 := by decide +kernel
theorem gk_n11_191 : Nat.beq (gr_cls (gd_rc 191)) 11 = false := by decide +kernel
theorem gk_10t : Nat.beq (gr_cls (gd_rc 191)) 10 = true := by decide +kernel
theorem gk_n12_191 : Nat.beq (gr_cls (gd_rc 191)) 12 = false := by decide +kernel
theorem gk_nt191 : (Nat.beq (gr_cls (gd_rc 191)) 11 || Nat.beq (gr_cls (gd_rc 191)) 12) = false := by decide +kernel
theorem gk_b12_191 : Nat.beq (gr_bk (gd_rc 191)) 12 = false := by decide +kernel
theorem gk_bk191 : (bif Nat.beq (gr_bk (gd_rc 191)) 12 then 12 else 11) = 11 := by decide +kernel
theorem gk_b_10 : (Int8.ofInt 10).toInt32 = 10 := by decide
theorem gk_b_100 : (Int8.ofInt 100).toInt32 = 100 := by decide
theorem gk_b_11 : (Int8.ofInt 11).toInt32 = 11 := by decide
theorem gk_b_12 : (Int8.ofInt 12).toInt32 = 12 := by decide
theorem gk_b_122 : (Int8.ofInt 122).toInt32 = 122 := by decide
theorem gk_b_13 : (Int8.ofInt 13).toInt32 = 13 := by decide
theorem gk_b_14 : (Int8.ofInt 14).toInt32 = 14 := by decide
theorem gk_b_15 : (Int8.ofInt 15).toInt32 = 15 := by decide
theorem gk_b_16 : (Int8.ofInt 16).toInt32 = 16 := by decide
theorem gk_b_17 : (Int8.ofInt 17).toInt32 = 17 := by decide
theorem gk_b_18 : (Int8.ofInt 18).toInt32 = 18 := by decide
theorem gk_b_19 : (Int8.ofInt 19).toInt32 = 19 := by decide
theorem gk_b_20 : (Int8.ofInt 20).toInt32 = 20 := by decide
theorem gk_b_21 : (Int8.ofInt 21).toInt32 = 21 := by decide
theorem gk_b_24 : (Int8.ofInt 24).toInt32 = 24 := by decide
theorem gk_b_30 : (Int8.ofInt 30).toInt32 = 30 := by decide
theorem gk_b_31 : (Int8.ofInt 31).toInt32 = 31 := by decide
theorem gk_b_32 : (Int8.ofInt 32).toInt32 = 32 := by decide
theorem gk_b_34 : (Int8.ofInt 34).toInt32 = 34 := by decide
theorem gk_b_40 : (Int8.ofInt 40).toInt32 = 40 := by decide
theorem gk_b_44 : (Int8.ofInt 44).toInt32 = 44 := by decide
theorem gk_b_48 : (Int8.ofInt 48).toInt32 = 48 := by decide
theorem gk_b_50 : (Int8.ofInt 50).toInt32 = 50 := by decide
theorem gk_b_57 : (Int8.ofInt 57).toInt32 = 57 := by decide
theorem gk_b_59 : (Int8.ofInt 59).toInt32 = 59 := by decide
theorem gk_b_6 : (Int8.ofInt 6).toInt32 = 6 := by decide
theorem gk_b_63 : (Int8.ofInt 63).toInt32 = 63 := by decide
theorem gk_b_7 : (Int8.ofInt 7).toInt32 = 7 := by decide
theorem gk_b_8 : (Int8.ofInt 8).toInt32 = 8 := by decide
theorem gk_b_9 : (Int8.ofInt 9).toInt32 = 9 := by decide
theorem gk_b_96 : (Int8.ofInt 96).toInt32 = 96 := by decide
theorem gk_b_97 : (Int8.ofInt 97).toInt32 = 97 := by decide
theorem gk_b_99 : (Int8.ofInt 99).toInt32 = 99 := by decide
theorem gk_b_m2 : (Int8.ofInt (-2)).toInt32 = (-2) := by decide
theorem gk_b_m3 : (Int8.ofInt (-3)).toInt32 = (-3) := by decide
theorem gk_b_m9 : (Int8.ofInt (-9)).toInt32 = (-9) := by decide
theorem gk_c_0 : Int32.ofInt 0 = 0 := by decide
theorem gk_c_1 : Int32.ofInt 1 = 1 := by decide
theorem gk_c_1431655765 : Int32.ofInt 1431655765 = 1431655765 := by decide
theorem gk_c_2 : Int32.ofInt 2 = 2 := by decide
theorem gk_c_252645135 : Int32.ofInt 252645135 = 252645135 := by decide
theorem gk_c_3 : Int32.ofInt 3 = 3 := by decide
theorem gk_c_4 : Int32.ofInt 4 = 4 := by decide
theorem gk_c_5 : Int32.ofInt 5 = 5 := by decide
theorem gk_c_6 : Int32.ofInt 6 = 6 := by decide
theorem gk_c_65536 : Int32.ofInt 65536 = 65536 := by decide
theorem gk_c_858993459 : Int32.ofInt 858993459 = 858993459 := by decide
theorem gk_c_m1 : Int32.ofInt (-1) = (-1) := by decide
theorem gk_c_m1073741824 : Int32.ofInt (-1073741824) = (-1073741824) := by decide
theorem gk_c_m2147483648 : Int32.ofInt (-2147483648) = (-2147483648) := by decide
theorem gk_c_m536870912 : Int32.ofInt (-536870912) = (-536870912) := by decide
theorem gk_c_m8 : Int32.ofInt (-8) = (-8) := by decide
theorem gk_s_10000 : (Int16.ofInt 10000).toInt32 = 10000 := by decide
theorem gk_s_1280 : (Int16.ofInt 1280).toInt32 = 1280 := by decide
theorem gk_s_160 : (Int16.ofInt 160).toInt32 = 160 := by decide
theorem gk_s_200 : (Int16.ofInt 200).toInt32 = 200 := by decide
theorem gk_s_255 : (Int16.ofInt 255).toInt32 = 255 := by decide
theorem gk_s_2560 : (Int16.ofInt 2560).toInt32 = 2560 := by decide
theorem gk_s_25600 : (Int16.ofInt 25600).toInt32 = 25600 := by decide
theorem gk_s_3000 : (Int16.ofInt 3000).toInt32 = 3000 := by decide
theorem gk_s_700 : (Int16.ofInt 700).toInt32 = 700 := by decide
theorem gk_s_960 : (Int16.ofInt 960).toInt32 = 960 := by decide
theorem gk_st102_4 : gd_stOk (gr_lng (gd_rc 102)) 4 (gr_ml (gd_rc 102)) = true := by decide +kernel
theorem gk_st104_4 : gd_stOk (gr_lng (gd_rc 104)) 4 (gr_ml (gd_rc 104)) = true := by decide +kernel
theorem gk_st107_2 : gd_stOk (gr_lng (gd_rc 107)) 2 (gr_ml (gd_rc 107)) = true := by decide +kernel
theorem gk_st107_3 : gd_stOk (gr_lng (gd_rc 107)) 3 (gr_ml (gd_rc 107)) = true := by decide +kernel
theorem gk_st107_4 : gd_stOk (gr_lng (gd_rc 107)) 4 (gr_ml (gd_rc 107)) = true := by decide +kernel
theorem gk_st107_5 : gd_stOk (gr_lng (gd_rc 107)) 5 (gr_ml (gd_rc 107)) = true := by decide +kernel
theorem gk_st107_6 : gd_stOk (gr_lng (gd_rc 107)) 6 (gr_ml (gd_rc 107)) = true := by decide +kernel
theorem gk_st109_3 : gd_stOk (gr_lng (gd_rc 109)) 3 (gr_ml (gd_rc 109)) = true := by decide +kernel
theorem gk_st109_4 : gd_stOk (gr_lng (gd_rc 109)) 4 (gr_ml (gd_rc 109)) = true := by decide +kernel
theorem gk_st110_5 : gd_stOk (gr_lng (gd_rc 110)) 5 (gr_ml (gd_rc 110)) = true := by decide +kernel
theorem gk_st111_5 : gd_stOk (gr_lng (gd_rc 111)) 5 (gr_ml (gd_rc 111)) = true := by decide +kernel
theorem gk_st112_2 : gd_stOk (gr_lng (gd_rc 112)) 2 (gr_ml (gd_rc 112)) = true := by decide +kernel
theorem gk_st112_3 : gd_stOk (gr_lng (gd_rc 112)) 3 (gr_ml (gd_rc 112)) = true := by decide +kernel
theorem gk_st112_4 : gd_stOk (gr_lng (gd_rc 112)) 4 (gr_ml (gd_rc 112)) = true := by decide +kernel
theorem gk_st112_5 : gd_stOk (gr_lng (gd_rc 112)) 5 (gr_ml (gd_rc 112)) = true := by decide +kernel
theorem gk_st112_6 : gd_stOk (gr_lng (gd_rc 112)) 6 (gr_ml (gd_rc 112)) = true := by decide +kernel
theorem gk_st112_7 : gd_stOk (gr_lng (gd_rc 112)) 7 (gr_ml (gd_rc 112)) = true := by decide +kernel
theorem gk_st113_5 : gd_stOk (gr_lng (gd_rc 113)) 5 (gr_ml (gd_rc 113)) = true := by decide +kernel
theorem gk_st113_6 : gd_stOk (gr_lng (gd_rc 113)) 6 (gr_ml (gd_rc 113)) = true := by decide +kernel
theorem gk_st113_7 : gd_stOk (gr_lng (gd_rc 113)) 7 (gr_ml (gd_rc 113)) = true := by decide +kernel
theorem gk_st114_3 : gd_stOk (gr_lng (gd_rc 114)) 3 (gr_ml (gd_rc 114)) = true := by decide +kernel
theorem gk_st117_0 : gd_stOk (gr_lng (gd_rc 117)) 0 (gr_ml (gd_rc 117)) = true := by decide +kernel
theorem gk_st118_2 : gd_stOk (gr_lng (gd_rc 118)) 2 (gr_ml (gd_rc 118)) = true := by decide +kernel
theorem gk_st118_3 : gd_stOk (gr_lng (gd_rc 118)) 3 (gr_ml (gd_rc 118)) = true := by decide +kernel
theorem gk_st118_4 : gd_stOk (gr_lng (gd_rc 118)) 4 (gr_ml (gd_rc 118)) = true := by decide +kernel
theorem gk_st119_6 : gd_stOk (gr_lng (gd_rc 119)) 6 (gr_ml (gd_rc 119)) = true := by decide +kernel
theorem gk_st11_1 : gd_stOk (gr_lng (gd_rc 11)) 1 (gr_ml (gd_rc 11)) = true := by decide +kernel
theorem gk_st120_2 : gd_stOk (gr_lng (gd_rc 120)) 2 (gr_ml (gd_rc 120)) = true := by decide +kernel
theorem gk_st120_3 : gd_stOk (gr_lng (gd_rc 120)) 3 (gr_ml (gd_rc 120)) = true := by decide +kernel
theorem gk_st120_4 : gd_stOk (gr_lng (gd_rc 120)) 4 (gr_ml (gd_rc 120)) = true := by decide +kernel
theorem gk_st120_5 : gd_stOk (gr_lng (gd_rc 120)) 5 (gr_ml (gd_rc 120)) = true := by decide +kernel
theorem gk_st121_6 : gd_stOk (gr_lng (gd_rc 121)) 6 (gr_ml (gd_rc 121)) = true := by decide +kernel
theorem gk_st122_1 : gd_stOk (gr_lng (gd_rc 122)) 1 (gr_ml (gd_rc 122)) = true := by decide +kernel
theorem gk_st123_2 : gd_stOk (gr_lng (gd_rc 123)) 2 (gr_ml (gd_rc 123)) = true := by decide +kernel
theorem gk_st123_3 : gd_stOk (gr_lng (gd_rc 123)) 3 (gr_ml (gd_rc 123)) = true := by decide +kernel
theorem gk_st123_4 : gd_stOk (gr_lng (gd_rc 123)) 4 (gr_ml (gd_rc 123)) = true := by decide +kernel
theorem gk_st123_5 : gd_stOk (gr_lng (gd_rc 123)) 5 (gr_ml (gd_rc 123)) = true := by decide +kernel
theorem gk_st123_6 : gd_stOk (gr_lng (gd_rc 123)) 6 (gr_ml (gd_rc 123)) = true := by decide +kernel
theorem gk_st123_7 : gd_stOk (gr_lng (gd_rc 123)) 7 (gr_ml (gd_rc 123)) = true := by decide +kernel
theorem gk_st124_5 : gd_stOk (gr_lng (gd_rc 124)) 5 (gr_ml (gd_rc 124)) = true := by decide +kernel
theorem gk_st124_6 : gd_stOk (gr_lng (gd_rc 124)) 6 (gr_ml (gd_rc 124)) = true := by decide +kernel
theorem gk_st126_10 : gd_stOk (gr_lng (gd_rc 126)) 10 (gr_ml (gd_rc 126)) = true := by decide +kernel
theorem gk_st126_4 : gd_stOk (gr_lng (gd_rc 126)) 4 (gr_ml (gd_rc 126)) = true := by decide +kernel
theorem gk_st126_5 : gd_stOk (gr_lng (gd_rc 126)) 5 (gr_ml (gd_rc 126)) = true := by decide +kernel
theorem gk_st126_6 : gd_stOk (gr_lng (gd_rc 126)) 6 (gr_ml (gd_rc 126)) = true := by decide +kernel
theorem gk_st126_7 : gd_stOk (gr_lng (gd_rc 126)) 7 (gr_ml (gd_rc 126)) = true := by decide +kernel
theorem gk_st126_8 : gd_stOk (gr_lng (gd_rc 126)) 8 (gr_ml (gd_rc 126)) = true := by decide +kernel
theorem gk_st126_9 : gd_stOk (gr_lng (gd_rc 126)) 9 (gr_ml (gd_rc 126)) = true := by decide +kernel
theorem gk_st127_1 : gd_stOk (gr_lng (gd_rc 127)) 1 (gr_ml (gd_rc 127)) = true := by decide +kernel
theorem gk_st128_3 : gd_stOk (gr_lng (gd_rc 128)) 3 (gr_ml (gd_rc 128)) = true := by decide +kernel
theorem gk_st128_4 : gd_stOk (gr_lng (gd_rc 128)) 4 (gr_ml (gd_rc 128)) = true := by decide +kernel
theorem gk_st128_5 : gd_stOk (gr_lng (gd_rc 128)) 5 (gr_ml (gd_rc 128)) = true := by decide +kernel
theorem gk_st128_6 : gd_stOk (gr_lng (gd_rc 128)) 6 (gr_ml (gd_rc 128)) = true := by decide +kernel
theorem gk_st128_7 : gd_stOk (gr_lng (gd_rc 128)) 7 (gr_ml (gd_rc 128)) = true := by decide +kernel
theorem gk_st128_8 : gd_stOk (gr_lng (gd_rc 128)) 8 (gr_ml (gd_rc 128)) = true := by decide +kernel
theorem gk_st129_2 : gd_stOk (gr_lng (gd_rc 129)) 2 (gr_ml (gd_rc 129)) = true := by decide +kernel
theorem gk_st130_2 : gd_stOk (gr_lng (gd_rc 130)) 2 (gr_ml (gd_rc 130)) = true := by decide +kernel
theorem gk_st130_3 : gd_stOk (gr_lng (gd_rc 130)) 3 (gr_ml (gd_rc 130)) = true := by decide +kernel
theorem gk_st130_4 : gd_stOk (gr_lng (gd_rc 130)) 4 (gr_ml (gd_rc 130)) = true := by decide +kernel
theorem gk_st131_3 : gd_stOk (gr_lng (gd_rc 131)) 3 (gr_ml (gd_rc 131)) = true := by decide +kernel
theorem gk_st131_4 : gd_stOk (gr_lng (gd_rc 131)) 4 (gr_ml (gd_rc 131)) = true := by decide +kernel
theorem gk_st131_5 : gd_stOk (gr_lng (gd_rc 131)) 5 (gr_ml (gd_rc 131)) = true := by decide +kernel
theorem gk_st134_2 : gd_stOk (gr_lng (gd_rc 134)) 2 (gr_ml (gd_rc 134)) = true := by decide +kernel
theorem gk_st134_3 : gd_stOk (gr_lng (gd_rc 134)) 3 (gr_ml (gd_rc 134)) = true := by decide +kernel
theorem gk_st134_4 : gd_stOk (gr_lng (gd_rc 134)) 4 (gr_ml (gd_rc 134)) = true := by decide +kernel
theorem gk_st134_5 : gd_stOk (gr_lng (gd_rc 134)) 5 (gr_ml (gd_rc 134)) = true := by decide +kernel
theorem gk_st137_4 : gd_stOk (gr_lng (gd_rc 137)) 4 (gr_ml (gd_rc 137)) = true := by decide +kernel
theorem gk_st138_3 : gd_stOk (gr_lng (gd_rc 138)) 3 (gr_ml (gd_rc 138)) = true := by decide +kernel
theorem gk_st138_4 : gd_stOk (gr_lng (gd_rc 138)) 4 (gr_ml (gd_rc 138)) = true := by decide +kernel
theorem gk_st138_5 : gd_stOk (gr_lng (gd_rc 138)) 5 (gr_ml (gd_rc 138)) = true := by decide +kernel
theorem gk_st138_6 : gd_stOk (gr_lng (gd_rc 138)) 6 (gr_ml (gd_rc 138)) = true := by decide +kernel
theorem gk_st139_3 : gd_stOk (gr_lng (gd_rc 139)) 3 (gr_ml (gd_rc 139)) = true := by decide +kernel
theorem gk_st139_4 : gd_stOk (gr_lng (gd_rc 139)) 4 (gr_ml (gd_rc 139)) = true := by decide +kernel
theorem gk_st139_5 : gd_stOk (gr_lng (gd_rc 139)) 5 (gr_ml (gd_rc 139)) = true := by decide +kernel
theorem gk_st140_3 : gd_stOk (gr_lng (gd_rc 140)) 3 (gr_ml (gd_rc 140)) = true := by decide +kernel
theorem gk_st140_4 : gd_stOk (gr_lng (gd_rc 140)) 4 (gr_ml (gd_rc 140)) = true := by decide +kernel
theorem gk_st140_5 : gd_stOk (gr_lng (gd_rc 140)) 5 (gr_ml (gd_rc 140)) = true := by decide +kernel
theorem gk_st140_6 : gd_stOk (gr_lng (gd_rc 140)) 6 (gr_ml (gd_rc 140)) = true := by decide +kernel
theorem gk_st140_7 : gd_stOk (gr_lng (gd_rc 140)) 7 (gr_ml (gd_rc 140)) = true := by decide +kernel
theorem gk_st140_8 : gd_stOk (gr_lng (gd_rc 140)) 8 (gr_ml (gd_rc 140)) = true := by decide +kernel
theorem gk_st141_2 : gd_stOk (gr_lng (gd_rc 141)) 2 (gr_ml (gd_rc 141)) = true := by decide +kernel
theorem gk_st141_3 : gd_stOk (gr_lng (gd_rc 141)) 3 (gr_ml (gd_rc 141)) = true := by decide +kernel
theorem gk_st141_4 : gd_stOk (gr_lng (gd_rc 141)) 4 (gr_ml (gd_rc 141)) = true := by decide +kernel
theorem gk_st141_5 : gd_stOk (gr_lng (gd_rc 141)) 5 (gr_ml (gd_rc 141)) = true := by decide +kernel
theorem gk_st141_6 : gd_stOk (gr_lng (gd_rc 141)) 6 (gr_ml (gd_rc 141)) = true := by decide +kernel
theorem gk_st143_2 : gd_stOk (gr_lng (gd_rc 143)) 2 (gr_ml (gd_rc 143)) = true := by decide +kernel
theorem gk_st143_3 : gd_stOk (gr_lng (gd_rc 143)) 3 (gr_ml (gd_rc 143)) = true := by decide +kernel
theorem gk_st143_4 : gd_stOk (gr_lng (gd_rc 143)) 4 (gr_ml (gd_rc 143)) = true := by decide +kernel
theorem gk_st143_5 : gd_stOk (gr_lng (gd_rc 143)) 5 (gr_ml (gd_rc 143)) = true := by decide +kernel
theorem gk_st143_6 : gd_stOk (gr_lng (gd_rc 143)) 6 (gr_ml (gd_rc 143)) = true := by decide +kernel
theorem gk_st144_2 : gd_stOk (gr_lng (gd_rc 144)) 2 (gr_ml (gd_rc 144)) = true := by decide +kernel
theorem gk_st145_4 : gd_stOk (gr_lng (gd_rc 145)) 4 (gr_ml (gd_rc 145)) = true := by decide +kernel
theorem gk_st148_4 : gd_stOk (gr_lng (gd_rc 148)) 4 (gr_ml (gd_rc 148)) = true := by decide +kernel
theorem gk_st14_1 : gd_stOk (gr_lng (gd_rc 14)) 1 (gr_ml (gd_rc 14)) = true := by decide +kernel
theorem gk_st150_4 : gd_stOk (gr_lng (gd_rc 150)) 4 (gr_ml (gd_rc 150)) = true := by decide +kernel
theorem gk_st150_5 : gd_stOk (gr_lng (gd_rc 150)) 5 (gr_ml (gd_rc 150)) = true := by decide +kernel
theorem gk_st150_6 : gd_stOk (gr_lng (gd_rc 150)) 6 (gr_ml (gd_rc 150)) = true := by decide +kernel
theorem gk_st152_4 : gd_stOk (gr_lng (gd_rc 152)) 4 (gr_ml (gd_rc 152)) = true := by decide +kernel
theorem gk_st153_4 : gd_stOk (gr_lng (gd_rc 153)) 4 (gr_ml (gd_rc 153)) = true := by decide +kernel
theorem gk_st154_5 : gd_stOk (gr_lng (gd_rc 154)) 5 (gr_ml (gd_rc 154)) = true := by decide +kernel
theorem gk_st154_6 : gd_stOk (gr_lng (gd_rc 154)) 6 (gr_ml (gd_rc 154)) = true := by decide +kernel
theorem gk_st155_5 : gd_stOk (gr_lng (gd_rc 155)) 5 (gr_ml (gd_rc 155)) = true := by decide +kernel
theorem gk_st155_6 : gd_stOk (gr_lng (gd_rc 155)) 6 (gr_ml (gd_rc 155)) = true := by decide +kernel
theorem gk_st155_7 : gd_stOk (gr_lng (gd_rc 155)) 7 (gr_ml (gd_rc 155)) = true := by decide +kernel
theorem gk_st162_5 : gd_stOk (gr_lng (gd_rc 162)) 5 (gr_ml (gd_rc 162)) = true := by decide +kernel
theorem gk_st163_4 : gd_stOk (gr_lng (gd_rc 163)) 4 (gr_ml (gd_rc 163)) = true := by decide +kernel
theorem gk_st163_5 : gd_stOk (gr_lng (gd_rc 163)) 5 (gr_ml (gd_rc 163)) = true := by decide +kernel
theorem gk_st163_6 : gd_stOk (gr_lng (gd_rc 163)) 6 (gr_ml (gd_rc 163)) = true := by decide +kernel
theorem gk_st163_7 : gd_stOk (gr_lng (gd_rc 163)) 7 (gr_ml (gd_rc 163)) = true := by decide +kernel
theorem gk_st163_8 : gd_stOk (gr_lng (gd_rc 163)) 8 (gr_ml (gd_rc 163)) = true := by decide +kernel
theorem gk_st164_2 : gd_stOk (gr_lng (gd_rc 164)) 2 (gr_ml (gd_rc 164)) = true := by decide +kernel
theorem gk_st164_3 : gd_stOk (gr_lng (gd_rc 164)) 3 (gr_ml (gd_rc 164)) = true := by decide +kernel
theorem gk_st164_4 : gd_stOk (gr_lng (gd_rc 164)) 4 (gr_ml (gd_rc 164)) = true := by decide +kernel
theorem gk_st166_3 : gd_stOk (gr_lng (gd_rc 166)) 3 (gr_ml (gd_rc 166)) = true := by decide +kernel
theorem gk_st167_2 : gd_stOk (gr_lng (gd_rc 167)) 2 (gr_ml (gd_rc 167)) = true := by decide +kernel
theorem gk_st167_3 : gd_stOk (gr_lng (gd_rc 167)) 3 (gr_ml (gd_rc 167)) = true := by decide +kernel
theorem gk_st167_4 : gd_stOk (gr_lng (gd_rc 167)) 4 (gr_ml (gd_rc 167)) = true := by decide +kernel
theorem gk_st167_5 : gd_stOk (gr_lng (gd_rc 167)) 5 (gr_ml (gd_rc 167)) = true := by decide +kernel
theorem gk_st167_6 : gd_stOk (gr_lng (gd_rc 167)) 6 (gr_ml (gd_rc 167)) = true := by decide +kernel
theorem gk_st169_2 : gd_stOk (gr_lng (gd_rc 169)) 2 (gr_ml (gd_rc 169)) = true := by decide +kernel
theorem gk_st169_3 : gd_stOk (gr_lng (gd_rc 169)) 3 (gr_ml (gd_rc 169)) = true := by decide +kernel
theorem gk_st170_4 : gd_stOk (gr_lng (gd_rc 170)) 4 (gr_ml (gd_rc 170)) = true := by decide +kernel
theorem gk_st170_5 : gd_stOk (gr_lng (gd_rc 170)) 5 (gr_ml (gd_rc 170)) = true := by decide +kernel
theorem gk_st170_6 : gd_stOk (gr_lng (gd_rc 170)) 6 (gr_ml (gd_rc 170)) = true := by decide +kernel
theorem gk_st172_2 : gd_stOk (gr_lng (gd_rc 172)) 2 (gr_ml (gd_rc 172)) = true := by decide +kernel
theorem gk_st173_4 : gd_stOk (gr_lng (gd_rc 173)) 4 (gr_ml (gd_rc 173)) = true := by decide +kernel
theorem gk_st174_2 : gd_stOk (gr_lng (gd_rc 174)) 2 (gr_ml (gd_rc 174)) = true := by decide +kernel
theorem gk_st174_3 : gd_stOk (gr_lng (gd_rc 174)) 3 (gr_ml (gd_rc 174)) = true := by decide +kernel
theorem gk_st175_4 : gd_stOk (gr_lng (gd_rc 175)) 4 (gr_ml (gd_rc 175)) = true := by decide +kernel
theorem gk_st175_5 : gd_stOk (gr_lng (gd_rc 175)) 5 (gr_ml (gd_rc 175)) = true := by decide +kernel
theorem gk_st178_3 : gd_stOk (gr_lng (gd_rc 178)) 3 (gr_ml (gd_rc 178)) = true := by decide +kernel
theorem gk_st178_4 : gd_stOk (gr_lng (gd_rc 178)) 4 (gr_ml (gd_rc 178)) = true := by decide +kernel
theorem gk_st179_3 : gd_stOk (gr_lng (gd_rc 179)) 3 (gr_ml (gd_rc 179)) = true := by decide +kernel
theorem gk_st179_4 : gd_stOk (gr_lng (gd_rc 179)) 4 (gr_ml (gd_rc 179)) = true := by decide +kernel
theorem gk_st179_5 : gd_stOk (gr_lng (gd_rc 179)) 5 (gr_ml (gd_rc 179)) = true := by decide +kernel
theorem gk_st180_2 : gd_stOk (gr_lng (gd_rc 180)) 2 (gr_ml (gd_rc 180)) = true := by decide +kernel
theorem gk_st180_3 : gd_stOk (gr_lng (gd_rc 180)) 3 (gr_ml (gd_rc 180)) = true := by decide +kernel
theorem gk_st182_3 : gd_stOk (gr_lng (gd_rc 182)) 3 (gr_ml (gd_rc 182)) = true := by decide +kernel
theorem gk_st182_4 : gd_stOk (gr_lng (gd_rc 182)) 4 (gr_ml (gd_rc 182)) = true := by decide +kernel
theorem gk_st182_5 : gd_stOk (gr_lng (gd_rc 182)) 5 (gr_ml (gd_rc 182)) = true := by decide +kernel
theorem gk_st182_6 : gd_stOk (gr_lng (gd_rc 182)) 6 (gr_ml (gd_rc 182)) = true := by decide +kernel
theorem gk_st184_2 : gd_stOk (gr_lng (gd_rc 184)) 2 (gr_ml (gd_rc 184)) = true := by decide +kernel
theorem gk_st184_3 : gd_stOk (gr_lng (gd_rc 184)) 3 (gr_ml (gd_rc 184)) = true := by decide +kernel
theorem gk_st184_4 : gd_stOk (gr_lng (gd_rc 184)) 4 (gr_ml (gd_rc 184)) = true := by decide +kernel
theorem gk_st185_2 : gd_stOk (gr_lng (gd_rc 185)) 2 (gr_ml (gd_rc 185)) = true := by decide +kernel
theorem gk_st185_3 : gd_stOk (gr_lng (gd_rc 185)) 3 (gr_ml (gd_rc 185)) = true := by decide +kernel
theorem gk_st185_4 : gd_stOk (gr_lng (gd_rc 185)) 4 (gr_ml (gd_rc 185)) = true := by decide +kernel
theorem gk_st186_2 : gd_stOk (gr_lng (gd_rc 186)) 2 (gr_ml (gd_rc 186)) = true := by decide +kernel
theorem gk_st188_2 : gd_stOk (gr_lng (gd_rc 188)) 2 (gr_ml (gd_rc 188)) = true := by decide +kernel
theorem gk_st188_3 : gd_stOk (gr_lng (gd_rc 188)) 3 (gr_ml (gd_rc 188)) = true := by decide +kernel
theorem gk_st191_1 : gd_stOk (gr_lng (gd_rc 191)) 1 (gr_ml (gd_rc 191)) = true := by decide +kernel
theorem gk_st191_2 : gd_stOk (gr_lng (gd_rc 191)) 2 (gr_ml (gd_rc 191)) = true := by decide +kernel
theorem gk_st191_3 : gd_stOk (gr_lng (gd_rc 191)) 3 (gr_ml (gd_rc 191)) = true := by decide +kernel
theorem gk_st20_1 : gd_stOk (gr_lng (gd_rc 20)) 1 (gr_ml (gd_rc 20)) = true := by decide +kernel
theorem gk_st22_2 : gd_stOk (gr_lng (gd_rc 22)) 2 (gr_ml (gd_rc 22)) = true := by decide +kernel
theorem gk_st24_6 : gd_stOk (gr_lng (gd_rc 24)) 6 (gr_ml (gd_rc 24)) = true := by decide +kernel
theorem gk_st24_7 : gd_stOk (gr_lng (gd_rc 24)) 7 (gr_ml (gd_rc 24)) = true := by decide +kernel
theorem gk_st24_8 : gd_stOk (gr_lng (gd_rc 24)) 8 (gr_ml (gd_rc 24)) = true := by decide +kernel
theorem gk_st30_1 : gd_stOk (gr_lng (gd_rc 30)) 1 (gr_ml (gd_rc 30)) = true := by decide +kernel
theorem gk_st35_2 : gd_stOk (gr_lng (gd_rc 35)) 2 (gr_ml (gd_rc 35)) = true := by decide +kernel
theorem gk_st37_3 : gd_stOk (gr_lng (gd_rc 37)) 3 (gr_ml (gd_rc 37)) = true := by decide +kernel
theorem gk_st42_1 : gd_stOk (gr_lng (gd_rc 42)) 1 (gr_ml (gd_rc 42)) = true := by decide +kernel
theorem gk_st46_1 : gd_stOk (gr_lng (gd_rc 46)) 1 (gr_ml (gd_rc 46)) = true := by decide +kernel
theorem gk_st46_2 : gd_stOk (gr_lng (gd_rc 46)) 2 (gr_ml (gd_rc 46)) = true := by decide +kernel
theorem gk_st46_3 : gd_stOk (gr_lng (gd_rc 46)) 3 (gr_ml (gd_rc 46)) = true := by decide +kernel
theorem gk_st46_4 : gd_stOk (gr_lng (gd_rc 46)) 4 (gr_ml (gd_rc 46)) = true := by decide +kernel
theorem gk_st47_3 : gd_stOk (gr_lng (gd_rc 47)) 3 (gr_ml (gd_rc 47)) = true := by decide +kernel
theorem gk_st48_2 : gd_stOk (gr_lng (gd_rc 48)) 2 (gr_ml (gd_rc 48)) = true := by decide +kernel
theorem gk_st50_1 : gd_stOk (gr_lng (gd_rc 50)) 1 (gr_ml (gd_rc 50)) = true := by decide +kernel
theorem gk_st50_2 : gd_stOk (gr_lng (gd_rc 50)) 2 (gr_ml (gd_rc 50)) = true := by decide +kernel
theorem gk_st50_3 : gd_stOk (gr_lng (gd_rc 50)) 3 (gr_ml (gd_rc 50)) = true := by decide +kernel
theorem gk_st51_3 : gd_stOk (gr_lng (gd_rc 51)) 3 (gr_ml (gd_rc 51)) = true := by decide +kernel
theorem gk_st52_1 : gd_stOk (gr_lng (gd_rc 52)) 1 (gr_ml (gd_rc 52)) = true := by decide +kernel
theorem gk_st52_2 : gd_stOk (gr_lng (gd_rc 52)) 2 (gr_ml (gd_rc 52)) = true := by decide +kernel
theorem gk_st53_1 : gd_stOk (gr_lng (gd_rc 53)) 1 (gr_ml (gd_rc 53)) = true := by decide +kernel
theorem gk_st55_1 : gd_stOk (gr_lng (gd_rc 55)) 1 (gr_ml (gd_rc 55)) = true := by decide +kernel
theorem gk_st55_2 : gd_stOk (gr_lng (gd_rc 55)) 2 (gr_ml (gd_rc 55)) = true := by decide +kernel
theorem gk_st56_4 : gd_stOk (gr_lng (gd_rc 56)) 4 (gr_ml (gd_rc 56)) = true := by decide +kernel
theorem gk_st57_2 : gd_stOk (gr_lng (gd_rc 57)) 2 (gr_ml (gd_rc 57)) = true := by decide +kernel
theorem gk_st59_4 : gd_stOk (gr_lng (gd_rc 59)) 4 (gr_ml (gd_rc 59)) = true := by decide +kernel
theorem gk_st60_1 : gd_stOk (gr_lng (gd_rc 60)) 1 (gr_ml (gd_rc 60)) = true := by decide +kernel
theorem gk_st61_1 : gd_stOk (gr_lng (gd_rc 61)) 1 (gr_ml (gd_rc 61)) = true := by decide +kernel
theorem gk_st61_2 : gd_stOk (gr_lng (gd_rc 61)) 2 (gr_ml (gd_rc 61)) = true := by decide +kernel
theorem gk_st64_3 : gd_stOk (gr_lng (gd_rc 64)) 3 (gr_ml (gd_rc 64)) = true := by decide +kernel
theorem gk_st64_4 : gd_stOk (gr_lng (gd_rc 64)) 4 (gr_ml (gd_rc 64)) = true := by decide +kernel
theorem gk_st64_5 : gd_stOk (gr_lng (gd_rc 64)) 5 (gr_ml (gd_rc 64)) = true := by decide +kernel
theorem gk_st64_6 : gd_stOk (gr_lng (gd_rc 64)) 6 (gr_ml (gd_rc 64)) = true := by decide +kernel
theorem gk_st64_7 : gd_stOk (gr_lng (gd_rc 64)) 7 (gr_ml (gd_rc 64)) = true := by decide +kernel
theorem gk_st65_5 : gd_stOk (gr_lng (gd_rc 65)) 5 (gr_ml (gd_rc 65)) = true := by decide +kernel
theorem gk_st67_1 : gd_stOk (gr_lng (gd_rc 67)) 1 (gr_ml (gd_rc 67)) = true := by decide +kernel
theorem gk_st67_2 : gd_stOk (gr_lng (gd_rc 67)) 2 (gr_ml (gd_rc 67)) = true := by decide +kernel
theorem gk_st67_3 : gd_stOk (gr_lng (gd_rc 67)) 3 (gr_ml (gd_rc 67)) = true := by decide +kernel
theorem gk_st70_5 : gd_stOk (gr_lng (gd_rc 70)) 5 (gr_ml (gd_rc 70)) = true := by decide +kernel
theorem gk_st72_3 : gd_stOk (gr_lng (gd_rc 72)) 3 (gr_ml (gd_rc 72)) = true := by decide +kernel
theorem gk_st75_1 : gd_stOk (gr_lng (gd_rc 75)) 1 (gr_ml (gd_rc 75)) = true := by decide +kernel
theorem gk_st76_1 : gd_stOk (gr_lng (gd_rc 76)) 1 (gr_ml (gd_rc 76)) = true := by decide +kernel
theorem gk_st77_1 : gd_stOk (gr_lng (gd_rc 77)) 1 (gr_ml (gd_rc 77)) = true := by decide +kernel
theorem gk_st77_2 : gd_stOk (gr_lng (gd_rc 77)) 2 (gr_ml (gd_rc 77)) = true := by decide +kernel
theorem gk_st78_1 : gd_stOk (gr_lng (gd_rc 78)) 1 (gr_ml (gd_rc 78)) = true := by decide +kernel
theorem gk_st78_2 : gd_stOk (gr_lng (gd_rc 78)) 2 (gr_ml (gd_rc 78)) = true := by decide +kernel
theorem gk_st79_2 : gd_stOk (gr_lng (gd_rc 79)) 2 (gr_ml (gd_rc 79)) = true := by decide +kernel
theorem gk_st7_1 : gd_stOk (gr_lng (gd_rc 7)) 1 (gr_ml (gd_rc 7)) = true := by decide +kernel
theorem gk_st7_2 : gd_stOk (gr_lng (gd_rc 7)) 2 (gr_ml (gd_rc 7)) = true := by decide +kernel
theorem gk_st81_1 : gd_stOk (gr_lng (gd_rc 81)) 1 (gr_ml (gd_rc 81)) = true := by decide +kernel
theorem gk_st82_1 : gd_stOk (gr_lng (gd_rc 82)) 1 (gr_ml (gd_rc 82)) = true := by decide +kernel
theorem gk_st82_2 : gd_stOk (gr_lng (gd_rc 82)) 2 (gr_ml (gd_rc 82)) = true := by decide +kernel
theorem gk_st86_2 : gd_stOk (gr_lng (gd_rc 86)) 2 (gr_ml (gd_rc 86)) = true := by decide +kernel
theorem gk_st86_3 : gd_stOk (gr_lng (gd_rc 86)) 3 (gr_ml (gd_rc 86)) = true := by decide +kernel
theorem gk_st88_3 : gd_stOk (gr_lng (gd_rc 88)) 3 (gr_ml (gd_rc 88)) = true := by decide +kernel
theorem gk_st88_4 : gd_stOk (gr_lng (gd_rc 88)) 4 (gr_ml (gd_rc 88)) = true := by decide +kernel
theorem gk_st91_2 : gd_stOk (gr_lng (gd_rc 91)) 2 (gr_ml (gd_rc 91)) = true := by decide +kernel
theorem gk_st94_3 : gd_stOk (gr_lng (gd_rc 94)) 3 (gr_ml (gd_rc 94)) = true := by decide +kernel
theorem gk_st94_4 : gd_stOk (gr_lng (gd_rc 94)) 4 (gr_ml (gd_rc 94)) = true := by decide +kernel
theorem gk_st94_5 : gd_stOk (gr_lng (gd_rc 94)) 5 (gr_ml (gd_rc 94)) = true := by decide +kernel
theorem gk_st95_1 : gd_stOk (gr_lng (gd_rc 95)) 1 (gr_ml (gd_rc 95)) = true := by decide +kernel
theorem gk_st96_3 : gd_stOk (gr_lng (gd_rc 96)) 3 (gr_ml (gd_rc 96)) = true := by decide +kernel
theorem gk_st96_4 : gd_stOk (gr_lng (gd_rc 96)) 4 (gr_ml (gd_rc 96)) = true := by decide +kernel
theorem gk_st99_3 : gd_stOk (gr_lng (gd_rc 99)) 3 (gr_ml (gd_rc 99)) = true := by decide +kernel
theorem gk_st99_4 : gd_stOk (gr_lng (gd_rc 99)) 4 (gr_ml (gd_rc 99)) = true := by decide +kernel
theorem gk_st99_5 : gd_stOk (gr_lng (gd_rc 99)) 5 (gr_ml (gd_rc 99)) = true := by decide +kernel
theorem gk_stL65_3 : gd_stLOk (gr_lng (gd_rc 65)) 3 (gr_ml (gd_rc 65)) = true := by decide +kernel
theorem gk_rm102_100 : gd_rmC 102 100 = true := by decide +kernel
theorem gk_rm102_101 : gd_rmC 102 101 = true := by decide +kernel
theorem gk_rm102_85 : gd_rmC 102 85 = true := by decide +kernel
theorem gk_rm102_93 : gd_rmC 102 93 = true := by decide +kernel
theorem gk_rm104_103 : gd_rmC 104 103 = true := by decide +kernel
theorem gk_rm104_71 : gd_rmC 104 71 = true := by decide +kernel
theorem gk_rm104_98 : gd_rmC 104 98 = true := by decide +kernel
theorem gk_rm109_107 : gd_rmC 109 107 = true := by decide +kernel
theorem gk_rm109_108 : gd_rmC 109 108 = true := by decide +kernel
theorem gk_rm110_109 : gd_rmC 110 109 = true := by decide +kernel
theorem gk_rm111_100 : gd_rmC 111 100 = true := by decide +kernel
theorem gk_rm111_105 : gd_rmC 111 105 = true := by decide +kernel
theorem gk_rm111_106 : gd_rmC 111 106 = true := by decide +kernel
theorem gk_rm111_110 : gd_rmC 111 110 = true := by decide +kernel
theorem gk_rm111_93 : gd_rmC 111 93 = true := by decide +kernel
theorem gk_rm113_103 : gd_rmC 113 103 = true := by decide +kernel
theorem gk_rm113_112 : gd_rmC 113 112 = true := by decide +kernel
theorem gk_rm113_71 : gd_rmC 113 71 = true := by decide +kernel
theorem gk_rm113_98 : gd_rmC 113 98 = true := by decide +kernel
theorem gk_rm114_93 : gd_rmC 114 93 = true := by decide +kernel
theorem gk_rm115_98 : gd_rmC 115 98 = true := by decide +kernel
theorem gk_rm118_117 : gd_rmC 118 117 = true := by decide +kernel
theorem gk_rm118_27 : gd_rmC 118 27 = true := by decide +kernel
theorem gk_rm119_100 : gd_rmC 119 100 = true := by decide +kernel
theorem gk_rm119_105 : gd_rmC 119 105 = true := by decide +kernel
theorem gk_rm119_116 : gd_rmC 119 116 = true := by decide +kernel
theorem gk_rm119_118 : gd_rmC 119 118 = true := by decide +kernel
theorem gk_rm119_93 : gd_rmC 119 93 = true := by decide +kernel
theorem gk_rm121_103 : gd_rmC 121 103 = true := by decide +kernel
theorem gk_rm121_120 : gd_rmC 121 120 = true := by decide +kernel
theorem gk_rm121_71 : gd_rmC 121 71 = true := by decide +kernel
theorem gk_rm121_98 : gd_rmC 121 98 = true := by decide +kernel
theorem gk_rm123_122 : gd_rmC 123 122 = true := by decide +kernel
theorem gk_rm123_85 : gd_rmC 123 85 = true := by decide +kernel
theorem gk_rm124_27 : gd_rmC 124 27 = true := by decide +kernel
theorem gk_rm124_85 : gd_rmC 124 85 = true := by decide +kernel
theorem gk_rm126_125 : gd_rmC 126 125 = true := by decide +kernel
theorem gk_rm126_47 : gd_rmC 126 47 = true := by decide +kernel
theorem gk_rm126_85 : gd_rmC 126 85 = true := by decide +kernel
theorem gk_rm127_125 : gd_rmC 127 125 = true := by decide +kernel
theorem gk_rm128_125 : gd_rmC 128 125 = true := by decide +kernel
theorem gk_rm12_11 : gd_rmC 12 11 = true := by decide +kernel
theorem gk_rm130_125 : gd_rmC 130 125 = true := by decide +kernel
theorem gk_rm130_128 : gd_rmC 130 128 = true := by decide +kernel
theorem gk_rm130_129 : gd_rmC 130 129 = true := by decide +kernel
theorem gk_rm131_122 : gd_rmC 131 122 = true := by decide +kernel
theorem gk_rm131_123 : gd_rmC 131 123 = true := by decide +kernel
theorem gk_rm131_124 : gd_rmC 131 124 = true := by decide +kernel
theorem gk_rm131_126 : gd_rmC 131 126 = true := by decide +kernel
theorem gk_rm131_127 : gd_rmC 131 127 = true := by decide +kernel
theorem gk_rm131_130 : gd_rmC 131 130 = true := by decide +kernel
theorem gk_rm133_131 : gd_rmC 133 131 = true := by decide +kernel
theorem gk_rm133_132 : gd_rmC 133 132 = true := by decide +kernel
theorem gk_rm134_125 : gd_rmC 134 125 = true := by decide +kernel
theorem gk_rm134_27 : gd_rmC 134 27 = true := by decide +kernel
theorem gk_rm135_118 : gd_rmC 135 118 = true := by decide +kernel
theorem gk_rm135_125 : gd_rmC 135 125 = true := by decide +kernel
theorem gk_rm136_134 : gd_rmC 136 134 = true := by decide +kernel
theorem gk_rm136_135 : gd_rmC 136 135 = true := by decide +kernel
theorem gk_rm137_100 : gd_rmC 137 100 = true := by decide +kernel
theorem gk_rm137_133 : gd_rmC 137 133 = true := by decide +kernel
theorem gk_rm137_136 : gd_rmC 137 136 = true := by decide +kernel
theorem gk_rm137_93 : gd_rmC 137 93 = true := by decide +kernel
theorem gk_rm141_138 : gd_rmC 141 138 = true := by decide +kernel
theorem gk_rm141_139 : gd_rmC 141 139 = true := by decide +kernel
theorem gk_rm141_140 : gd_rmC 141 140 = true := by decide +kernel
theorem gk_rm142_141 : gd_rmC 142 141 = true := by decide +kernel
theorem gk_rm144_120 : gd_rmC 144 120 = true := by decide +kernel
theorem gk_rm144_142 : gd_rmC 144 142 = true := by decide +kernel
theorem gk_rm144_143 : gd_rmC 144 143 = true := by decide +kernel
theorem gk_rm145_103 : gd_rmC 145 103 = true := by decide +kernel
theorem gk_rm145_144 : gd_rmC 145 144 = true := by decide +kernel
theorem gk_rm145_98 : gd_rmC 145 98 = true := by decide +kernel
theorem gk_rm147_117 : gd_rmC 147 117 = true := by decide +kernel
theorem gk_rm147_118 : gd_rmC 147 118 = true := by decide +kernel
theorem gk_rm147_123 : gd_rmC 147 123 = true := by decide +kernel
theorem gk_rm147_133 : gd_rmC 147 133 = true := by decide +kernel
theorem gk_rm148_116 : gd_rmC 148 116 = true := by decide +kernel
theorem gk_rm148_146 : gd_rmC 148 146 = true := by decide +kernel
theorem gk_rm148_147 : gd_rmC 148 147 = true := by decide +kernel
theorem gk_rm148_93 : gd_rmC 148 93 = true := by decide +kernel
theorem gk_rm14_10 : gd_rmC 14 10 = true := by decide +kernel
theorem gk_rm14_12 : gd_rmC 14 12 = true := by decide +kernel
theorem gk_rm14_13 : gd_rmC 14 13 = true := by decide +kernel
theorem gk_rm14_8 : gd_rmC 14 8 = true := by decide +kernel
theorem gk_rm14_9 : gd_rmC 14 9 = true := by decide +kernel
theorem gk_rm150_120 : gd_rmC 150 120 = true := by decide +kernel
theorem gk_rm150_138 : gd_rmC 150 138 = true := by decide +kernel
theorem gk_rm150_141 : gd_rmC 150 141 = true := by decide +kernel
theorem gk_rm150_142 : gd_rmC 150 142 = true := by decide +kernel
theorem gk_rm150_143 : gd_rmC 150 143 = true := by decide +kernel
theorem gk_rm150_144 : gd_rmC 150 144 = true := by decide +kernel
theorem gk_rm150_149 : gd_rmC 150 149 = true := by decide +kernel
theorem gk_rm150_71 : gd_rmC 150 71 = true := by decide +kernel
theorem gk_rm150_98 : gd_rmC 150 98 = true := by decide +kernel
theorem gk_rm152_151 : gd_rmC 152 151 = true := by decide +kernel
theorem gk_rm152_93 : gd_rmC 152 93 = true := by decide +kernel
theorem gk_rm153_149 : gd_rmC 153 149 = true := by decide +kernel
theorem gk_rm153_98 : gd_rmC 153 98 = true := by decide +kernel
theorem gk_rm154_116 : gd_rmC 154 116 = true := by decide +kernel
theorem gk_rm154_131 : gd_rmC 154 131 = true := by decide +kernel
theorem gk_rm154_132 : gd_rmC 154 132 = true := by decide +kernel
theorem gk_rm154_135 : gd_rmC 154 135 = true := by decide +kernel
theorem gk_rm154_151 : gd_rmC 154 151 = true := by decide +kernel
theorem gk_rm154_85 : gd_rmC 154 85 = true := by decide +kernel
theorem gk_rm154_93 : gd_rmC 154 93 = true := by decide +kernel
theorem gk_rm155_142 : gd_rmC 155 142 = true := by decide +kernel
theorem gk_rm155_144 : gd_rmC 155 144 = true := by decide +kernel
theorem gk_rm155_71 : gd_rmC 155 71 = true := by decide +kernel
theorem gk_rm155_98 : gd_rmC 155 98 = true := by decide +kernel
theorem gk_rm158_156 : gd_rmC 158 156 = true := by decide +kernel
theorem gk_rm158_157 : gd_rmC 158 157 = true := by decide +kernel
theorem gk_rm158_92 : gd_rmC 158 92 = true := by decide +kernel
theorem gk_rm159_71 : gd_rmC 159 71 = true := by decide +kernel
theorem gk_rm159_97 : gd_rmC 159 97 = true := by decide +kernel
theorem gk_rm162_161 : gd_rmC 162 161 = true := by decide +kernel
theorem gk_rm163_151 : gd_rmC 163 151 = true := by decide +kernel
theorem gk_rm163_162 : gd_rmC 163 162 = true := by decide +kernel
theorem gk_rm163_93 : gd_rmC 163 93 = true := by decide +kernel
theorem gk_rm164_156 : gd_rmC 164 156 = true := by decide +kernel
theorem gk_rm164_157 : gd_rmC 164 157 = true := by decide +kernel
theorem gk_rm164_160 : gd_rmC 164 160 = true := by decide +kernel
theorem gk_rm164_163 : gd_rmC 164 163 = true := by decide +kernel
theorem gk_rm165_156 : gd_rmC 165 156 = true := by decide +kernel
theorem gk_rm165_164 : gd_rmC 165 164 = true := by decide +kernel
theorem gk_rm166_149 : gd_rmC 166 149 = true := by decide +kernel
theorem gk_rm167_142 : gd_rmC 167 142 = true := by decide +kernel
theorem gk_rm167_143 : gd_rmC 167 143 = true := by decide +kernel
theorem gk_rm167_144 : gd_rmC 167 144 = true := by decide +kernel
theorem gk_rm167_166 : gd_rmC 167 166 = true := by decide +kernel
theorem gk_rm168_167 : gd_rmC 168 167 = true := by decide +kernel
theorem gk_rm168_71 : gd_rmC 168 71 = true := by decide +kernel
theorem gk_rm16_15 : gd_rmC 16 15 = true := by decide +kernel
theorem gk_rm170_27 : gd_rmC 170 27 = true := by decide +kernel
theorem gk_rm171_170 : gd_rmC 171 170 = true := by decide +kernel
theorem gk_rm173_164 : gd_rmC 173 164 = true := by decide +kernel
theorem gk_rm173_169 : gd_rmC 173 169 = true := by decide +kernel
theorem gk_rm173_171 : gd_rmC 173 171 = true := by decide +kernel
theorem gk_rm173_172 : gd_rmC 173 172 = true := by decide +kernel
theorem gk_rm174_167 : gd_rmC 174 167 = true := by decide +kernel
theorem gk_rm175_174 : gd_rmC 175 174 = true := by decide +kernel
theorem gk_rm175_71 : gd_rmC 175 71 = true := by decide +kernel
theorem gk_rm176_164 : gd_rmC 176 164 = true := by decide +kernel
theorem gk_rm176_171 : gd_rmC 176 171 = true := by decide +kernel
theorem gk_rm177_174 : gd_rmC 177 174 = true := by decide +kernel
theorem gk_rm177_71 : gd_rmC 177 71 = true := by decide +kernel
theorem gk_rm178_27 : gd_rmC 178 27 = true := by decide +kernel
theorem gk_rm179_151 : gd_rmC 179 151 = true := by decide +kernel
theorem gk_rm179_178 : gd_rmC 179 178 = true := by decide +kernel
theorem gk_rm179_93 : gd_rmC 179 93 = true := by decide +kernel
theorem gk_rm17_16 : gd_rmC 17 16 = true := by decide +kernel
theorem gk_rm180_179 : gd_rmC 180 179 = true := by decide +kernel
theorem gk_rm181_156 : gd_rmC 181 156 = true := by decide +kernel
theorem gk_rm181_179 : gd_rmC 181 179 = true := by decide +kernel
theorem gk_rm181_180 : gd_rmC 181 180 = true := by decide +kernel
theorem gk_rm181_89 : gd_rmC 181 89 = true := by decide +kernel
theorem gk_rm182_144 : gd_rmC 182 144 = true := by decide +kernel
theorem gk_rm182_149 : gd_rmC 182 149 = true := by decide +kernel
theorem gk_rm183_182 : gd_rmC 183 182 = true := by decide +kernel
theorem gk_rm183_71 : gd_rmC 183 71 = true := by decide +kernel
theorem gk_rm184_180 : gd_rmC 184 180 = true := by decide +kernel
theorem gk_rm184_89 : gd_rmC 184 89 = true := by decide +kernel
theorem gk_rm185_183 : gd_rmC 185 183 = true := by decide +kernel
theorem gk_rm185_71 : gd_rmC 185 71 = true := by decide +kernel
theorem gk_rm187_186 : gd_rmC 187 186 = true := by decide +kernel
theorem gk_rm188_149 : gd_rmC 188 149 = true := by decide +kernel
theorem gk_rm188_71 : gd_rmC 188 71 = true := by decide +kernel
theorem gk_rm189_89 : gd_rmC 189 89 = true := by decide +kernel
theorem gk_rm18_17 : gd_rmC 18 17 = true := by decide +kernel
theorem gk_rm190_71 : gd_rmC 190 71 = true := by decide +kernel
theorem gk_rm191_102 : gd_rmC 191 102 = true := by decide +kernel
theorem gk_rm191_104 : gd_rmC 191 104 = true := by decide +kernel
theorem gk_rm191_111 : gd_rmC 191 111 = true := by decide +kernel
theorem gk_rm191_113 : gd_rmC 191 113 = true := by decide +kernel
theorem gk_rm191_114 : gd_rmC 191 114 = true := by decide +kernel
theorem gk_rm191_115 : gd_rmC 191 115 = true := by decide +kernel
theorem gk_rm191_119 : gd_rmC 191 119 = true := by decide +kernel
theorem gk_rm191_121 : gd_rmC 191 121 = true := by decide +kernel
theorem gk_rm191_137 : gd_rmC 191 137 = true := by decide +kernel
theorem gk_rm191_14 : gd_rmC 191 14 = true := by decide +kernel
theorem gk_rm191_145 : gd_rmC 191 145 = true := by decide +kernel
theorem gk_rm191_148 : gd_rmC 191 148 = true := by decide +kernel
theorem gk_rm191_150 : gd_rmC 191 150 = true := by decide +kernel
theorem gk_rm191_152 : gd_rmC 191 152 = true := by decide +kernel
theorem gk_rm191_153 : gd_rmC 191 153 = true := by decide +kernel
theorem gk_rm191_154 : gd_rmC 191 154 = true := by decide +kernel
theorem gk_rm191_155 : gd_rmC 191 155 = true := by decide +kernel
theorem gk_rm191_158 : gd_rmC 191 158 = true := by decide +kernel
theorem gk_rm191_159 : gd_rmC 191 159 = true := by decide +kernel
theorem gk_rm191_165 : gd_rmC 191 165 = true := by decide +kernel
theorem gk_rm191_168 : gd_rmC 191 168 = true := by decide +kernel
theorem gk_rm191_173 : gd_rmC 191 173 = true := by decide +kernel
theorem gk_rm191_175 : gd_rmC 191 175 = true := by decide +kernel
theorem gk_rm191_176 : gd_rmC 191 176 = true := by decide +kernel
theorem gk_rm191_177 : gd_rmC 191 177 = true := by decide +kernel
theorem gk_rm191_181 : gd_rmC 191 181 = true := by decide +kernel
theorem gk_rm191_183 : gd_rmC 191 183 = true := by decide +kernel
theorem gk_rm191_184 : gd_rmC 191 184 = true := by decide +kernel
theorem gk_rm191_185 : gd_rmC 191 185 = true := by decide +kernel
theorem gk_rm191_187 : gd_rmC 191 187 = true := by decide +kernel
theorem gk_rm191_188 : gd_rmC 191 188 = true := by decide +kernel
theorem gk_rm191_189 : gd_rmC 191 189 = true := by decide +kernel
theorem gk_rm191_190 : gd_rmC 191 190 = true := by decide +kernel
theorem gk_rm191_21 : gd_rmC 191 21 = true := by decide +kernel
theorem gk_rm191_23 : gd_rmC 191 23 = true := by decide +kernel
theorem gk_rm191_24 : gd_rmC 191 24 = true := by decide +kernel
theorem gk_rm191_25 : gd_rmC 191 25 = true := by decide +kernel
theorem gk_rm191_26 : gd_rmC 191 26 = true := by decide +kernel
theorem gk_rm191_61 : gd_rmC 191 61 = true := by decide +kernel
theorem gk_rm191_82 : gd_rmC 191 82 = true := by decide +kernel
theorem gk_rm191_83 : gd_rmC 191 83 = true := by decide +kernel
theorem gk_rm191_84 : gd_rmC 191 84 = true := by decide +kernel
theorem gk_rm191_87 : gd_rmC 191 87 = true := by decide +kernel
theorem gk_rm191_88 : gd_rmC 191 88 = true := by decide +kernel
theorem gk_rm191_90 : gd_rmC 191 90 = true := by decide +kernel
theorem gk_rm191_91 : gd_rmC 191 91 = true := by decide +kernel
theorem gk_rm191_96 : gd_rmC 191 96 = true := by decide +kernel
theorem gk_rm191_99 : gd_rmC 191 99 = true := by decide +kernel
theorem gk_rm1_0 : gd_rmC 1 0 = true := by decide +kernel
theorem gk_rm21_18 : gd_rmC 21 18 = true := by decide +kernel
theorem gk_rm21_19 : gd_rmC 21 19 = true := by decide +kernel
theorem gk_rm21_20 : gd_rmC 21 20 = true := by decide +kernel
theorem gk_rm23_22 : gd_rmC 23 22 = true := by decide +kernel
theorem gk_rm28_27 : gd_rmC 28 27 = true := by decide +kernel
theorem gk_rm32_29 : gd_rmC 32 29 = true := by decide +kernel
theorem gk_rm32_30 : gd_rmC 32 30 = true := by decide +kernel
theorem gk_rm32_31 : gd_rmC 32 31 = true := by decide +kernel
theorem gk_rm34_33 : gd_rmC 34 33 = true := by decide +kernel
theorem gk_rm38_32 : gd_rmC 38 32 = true := by decide +kernel
theorem gk_rm38_35 : gd_rmC 38 35 = true := by decide +kernel
theorem gk_rm38_36 : gd_rmC 38 36 = true := by decide +kernel
theorem gk_rm38_37 : gd_rmC 38 37 = true := by decide +kernel
theorem gk_rm40_32 : gd_rmC 40 32 = true := by decide +kernel
theorem gk_rm40_35 : gd_rmC 40 35 = true := by decide +kernel
theorem gk_rm40_39 : gd_rmC 40 39 = true := by decide +kernel
theorem gk_rm41_32 : gd_rmC 41 32 = true := by decide +kernel
theorem gk_rm41_35 : gd_rmC 41 35 = true := by decide +kernel
theorem gk_rm42_36 : gd_rmC 42 36 = true := by decide +kernel
theorem gk_rm42_37 : gd_rmC 42 37 = true := by decide +kernel
theorem gk_rm43_32 : gd_rmC 43 32 = true := by decide +kernel
theorem gk_rm43_35 : gd_rmC 43 35 = true := by decide +kernel
theorem gk_rm43_42 : gd_rmC 43 42 = true := by decide +kernel
theorem gk_rm44_35 : gd_rmC 44 35 = true := by decide +kernel
theorem gk_rm46_32 : gd_rmC 46 32 = true := by decide +kernel
theorem gk_rm46_35 : gd_rmC 46 35 = true := by decide +kernel
theorem gk_rm46_38 : gd_rmC 46 38 = true := by decide +kernel
theorem gk_rm46_40 : gd_rmC 46 40 = true := by decide +kernel
theorem gk_rm46_41 : gd_rmC 46 41 = true := by decide +kernel
theorem gk_rm46_43 : gd_rmC 46 43 = true := by decide +kernel
theorem gk_rm46_44 : gd_rmC 46 44 = true := by decide +kernel
theorem gk_rm46_45 : gd_rmC 46 45 = true := by decide +kernel
theorem gk_rm48_42 : gd_rmC 48 42 = true := by decide +kernel
theorem gk_rm48_47 : gd_rmC 48 47 = true := by decide +kernel
theorem gk_rm4_3 : gd_rmC 4 3 = true := by decide +kernel
theorem gk_rm50_32 : gd_rmC 50 32 = true := by decide +kernel
theorem gk_rm50_35 : gd_rmC 50 35 = true := by decide +kernel
theorem gk_rm50_40 : gd_rmC 50 40 = true := by decide +kernel
theorem gk_rm50_43 : gd_rmC 50 43 = true := by decide +kernel
theorem gk_rm50_44 : gd_rmC 50 44 = true := by decide +kernel
theorem gk_rm50_48 : gd_rmC 50 48 = true := by decide +kernel
theorem gk_rm50_49 : gd_rmC 50 49 = true := by decide +kernel
theorem gk_rm51_32 : gd_rmC 51 32 = true := by decide +kernel
theorem gk_rm51_35 : gd_rmC 51 35 = true := by decide +kernel
theorem gk_rm51_39 : gd_rmC 51 39 = true := by decide +kernel
theorem gk_rm52_32 : gd_rmC 52 32 = true := by decide +kernel
theorem gk_rm52_40 : gd_rmC 52 40 = true := by decide +kernel
theorem gk_rm52_41 : gd_rmC 52 41 = true := by decide +kernel
theorem gk_rm52_44 : gd_rmC 52 44 = true := by decide +kernel
theorem gk_rm52_51 : gd_rmC 52 51 = true := by decide +kernel
theorem gk_rm53_32 : gd_rmC 53 32 = true := by decide +kernel
theorem gk_rm53_40 : gd_rmC 53 40 = true := by decide +kernel
theorem gk_rm53_41 : gd_rmC 53 41 = true := by decide +kernel
theorem gk_rm53_44 : gd_rmC 53 44 = true := by decide +kernel
theorem gk_rm53_51 : gd_rmC 53 51 = true := by decide +kernel
theorem gk_rm55_32 : gd_rmC 55 32 = true := by decide +kernel
theorem gk_rm55_35 : gd_rmC 55 35 = true := by decide +kernel
theorem gk_rm55_38 : gd_rmC 55 38 = true := by decide +kernel
theorem gk_rm55_40 : gd_rmC 55 40 = true := by decide +kernel
theorem gk_rm55_44 : gd_rmC 55 44 = true := by decide +kernel
theorem gk_rm55_54 : gd_rmC 55 54 = true := by decide +kernel
theorem gk_rm56_32 : gd_rmC 56 32 = true := by decide +kernel
theorem gk_rm56_35 : gd_rmC 56 35 = true := by decide +kernel
theorem gk_rm56_39 : gd_rmC 56 39 = true := by decide +kernel
theorem gk_rm57_32 : gd_rmC 57 32 = true := by decide +kernel
theorem gk_rm57_41 : gd_rmC 57 41 = true := by decide +kernel
theorem gk_rm57_44 : gd_rmC 57 44 = true := by decide +kernel
theorem gk_rm57_56 : gd_rmC 57 56 = true := by decide +kernel
theorem gk_rm58_34 : gd_rmC 58 34 = true := by decide +kernel
theorem gk_rm58_35 : gd_rmC 58 35 = true := by decide +kernel
theorem gk_rm58_46 : gd_rmC 58 46 = true := by decide +kernel
theorem gk_rm58_50 : gd_rmC 58 50 = true := by decide +kernel
theorem gk_rm58_52 : gd_rmC 58 52 = true := by decide +kernel
theorem gk_rm58_53 : gd_rmC 58 53 = true := by decide +kernel
theorem gk_rm58_55 : gd_rmC 58 55 = true := by decide +kernel
theorem gk_rm58_57 : gd_rmC 58 57 = true := by decide +kernel
theorem gk_rm59_11 : gd_rmC 59 11 = true := by decide +kernel
theorem gk_rm59_28 : gd_rmC 59 28 = true := by decide +kernel
theorem gk_rm59_32 : gd_rmC 59 32 = true := by decide +kernel
theorem gk_rm59_35 : gd_rmC 59 35 = true := by decide +kernel
theorem gk_rm59_58 : gd_rmC 59 58 = true := by decide +kernel
theorem gk_rm5_4 : gd_rmC 5 4 = true := by decide +kernel
theorem gk_rm61_59 : gd_rmC 61 59 = true := by decide +kernel
theorem gk_rm61_60 : gd_rmC 61 60 = true := by decide +kernel
theorem gk_rm64_1 : gd_rmC 64 1 = true := by decide +kernel
theorem gk_rm64_6 : gd_rmC 64 6 = true := by decide +kernel
theorem gk_rm64_62 : gd_rmC 64 62 = true := by decide +kernel
theorem gk_rm65_62 : gd_rmC 65 62 = true := by decide +kernel
theorem gk_rm67_62 : gd_rmC 67 62 = true := by decide +kernel
theorem gk_rm67_63 : gd_rmC 67 63 = true := by decide +kernel
theorem gk_rm67_64 : gd_rmC 67 64 = true := by decide +kernel
theorem gk_rm67_65 : gd_rmC 67 65 = true := by decide +kernel
theorem gk_rm67_66 : gd_rmC 67 66 = true := by decide +kernel
theorem gk_rm69_67 : gd_rmC 69 67 = true := by decide +kernel
theorem gk_rm69_68 : gd_rmC 69 68 = true := by decide +kernel
theorem gk_rm6_2 : gd_rmC 6 2 = true := by decide +kernel
theorem gk_rm6_5 : gd_rmC 6 5 = true := by decide +kernel
theorem gk_rm72_68 : gd_rmC 72 68 = true := by decide +kernel
theorem gk_rm72_69 : gd_rmC 72 69 = true := by decide +kernel
theorem gk_rm72_71 : gd_rmC 72 71 = true := by decide +kernel
theorem gk_rm74_68 : gd_rmC 74 68 = true := by decide +kernel
theorem gk_rm74_69 : gd_rmC 74 69 = true := by decide +kernel
theorem gk_rm74_73 : gd_rmC 74 73 = true := by decide +kernel
theorem gk_rm75_68 : gd_rmC 75 68 = true := by decide +kernel
theorem gk_rm75_70 : gd_rmC 75 70 = true := by decide +kernel
theorem gk_rm76_68 : gd_rmC 76 68 = true := by decide +kernel
theorem gk_rm76_69 : gd_rmC 76 69 = true := by decide +kernel
theorem gk_rm76_70 : gd_rmC 76 70 = true := by decide +kernel
theorem gk_rm76_72 : gd_rmC 76 72 = true := by decide +kernel
theorem gk_rm76_73 : gd_rmC 76 73 = true := by decide +kernel
theorem gk_rm76_74 : gd_rmC 76 74 = true := by decide +kernel
theorem gk_rm76_75 : gd_rmC 76 75 = true := by decide +kernel
theorem gk_rm77_68 : gd_rmC 77 68 = true := by decide +kernel
theorem gk_rm77_69 : gd_rmC 77 69 = true := by decide +kernel
theorem gk_rm77_72 : gd_rmC 77 72 = true := by decide +kernel
theorem gk_rm77_75 : gd_rmC 77 75 = true := by decide +kernel
theorem gk_rm78_68 : gd_rmC 78 68 = true := by decide +kernel
theorem gk_rm78_69 : gd_rmC 78 69 = true := by decide +kernel
theorem gk_rm78_72 : gd_rmC 78 72 = true := by decide +kernel
theorem gk_rm78_73 : gd_rmC 78 73 = true := by decide +kernel
theorem gk_rm79_68 : gd_rmC 79 68 = true := by decide +kernel
theorem gk_rm79_69 : gd_rmC 79 69 = true := by decide +kernel
theorem gk_rm79_71 : gd_rmC 79 71 = true := by decide +kernel
theorem gk_rm7_1 : gd_rmC 7 1 = true := by decide +kernel
theorem gk_rm7_6 : gd_rmC 7 6 = true := by decide +kernel
theorem gk_rm80_68 : gd_rmC 80 68 = true := by decide +kernel
theorem gk_rm80_69 : gd_rmC 80 69 = true := by decide +kernel
theorem gk_rm81_68 : gd_rmC 81 68 = true := by decide +kernel
theorem gk_rm81_69 : gd_rmC 81 69 = true := by decide +kernel
theorem gk_rm81_72 : gd_rmC 81 72 = true := by decide +kernel
theorem gk_rm81_74 : gd_rmC 81 74 = true := by decide +kernel
theorem gk_rm81_76 : gd_rmC 81 76 = true := by decide +kernel
theorem gk_rm81_77 : gd_rmC 81 77 = true := by decide +kernel
theorem gk_rm81_78 : gd_rmC 81 78 = true := by decide +kernel
theorem gk_rm81_79 : gd_rmC 81 79 = true := by decide +kernel
theorem gk_rm81_80 : gd_rmC 81 80 = true := by decide +kernel
theorem gk_rm82_20 : gd_rmC 82 20 = true := by decide +kernel
theorem gk_rm82_67 : gd_rmC 82 67 = true := by decide +kernel
theorem gk_rm82_81 : gd_rmC 82 81 = true := by decide +kernel
theorem gk_rm87_85 : gd_rmC 87 85 = true := by decide +kernel
theorem gk_rm87_86 : gd_rmC 87 86 = true := by decide +kernel
theorem gk_rm88_71 : gd_rmC 88 71 = true := by decide +kernel
theorem gk_rm8_7 : gd_rmC 8 7 = true := by decide +kernel
theorem gk_rm90_89 : gd_rmC 90 89 = true := by decide +kernel
theorem gk_rm91_71 : gd_rmC 91 71 = true := by decide +kernel
theorem gk_rm93_92 : gd_rmC 93 92 = true := by decide +kernel
theorem gk_rm94_93 : gd_rmC 94 93 = true := by decide +kernel
theorem gk_rm96_93 : gd_rmC 96 93 = true := by decide +kernel
theorem gk_rm96_94 : gd_rmC 96 94 = true := by decide +kernel
theorem gk_rm96_95 : gd_rmC 96 95 = true := by decide +kernel
theorem gk_rm97_71 : gd_rmC 97 71 = true := by decide +kernel
theorem gk_rm98_71 : gd_rmC 98 71 = true := by decide +kernel
theorem gk_rm98_97 : gd_rmC 98 97 = true := by decide +kernel
theorem gk_rm99_98 : gd_rmC 99 98 = true := by decide +kernel
