/-! the words that a frame has at hand -/
def gd_G : List Jvm.Cond := lw_tbl.filter goodWord
theorem gd_inT0 : ∀ w ∈ u_ws (gd_cn 0) (gd_T 0) (gd_NN 0), w ∈ gd_G := by decide +kernel
theorem gd_inT1 : ∀ w ∈ u_ws (gd_cn 1) (gd_T 1) (gd_NN 1), w ∈ gd_G := by decide +kernel
theorem gd_inT2 : ∀ w ∈ u_ws (gd_cn 2) (gd_T 2) (gd_NN 2), w ∈ gd_G := by decide +kernel
theorem gd_inT3 : ∀ w ∈ u_ws (gd_cn 3) (gd_T 3) (gd_NN 3), w ∈ gd_G := by decide +kernel
theorem gd_inT4 : ∀ w ∈ u_ws (gd_cn 4) (gd_T 4) (gd_NN 4), w ∈ gd_G := by decide +kernel
theorem gd_inT5 : ∀ w ∈ u_ws (gd_cn 5) (gd_T 5) (gd_NN 5), w ∈ gd_G := by decide +kernel
theorem gd_inT6 : ∀ w ∈ u_ws (gd_cn 6) (gd_T 6) (gd_NN 6), w ∈ gd_G := by decide +kernel
theorem gd_inT7 : ∀ w ∈ u_ws (gd_cn 7) (gd_T 7) (gd_NN 7), w ∈ gd_G := by decide +kernel
theorem gd_inT8 : ∀ w ∈ u_ws (gd_cn 8) (gd_T 8) (gd_NN 8), w ∈ gd_G := by decide +kernel
theorem gd_inT9 : ∀ w ∈ u_ws (gd_cn 9) (gd_T 9) (gd_NN 9), w ∈ gd_G := by decide +kernel
