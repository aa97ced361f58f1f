theorem gd_vl0 : ((gd_c191.drop 0).take 45).all (gd_okE gd_r191) = true := by decide +kernel
theorem gd_vl1 : ((gd_c191.drop 45).take 45).all (gd_okE gd_r191) = true := by decide +kernel
theorem gd_vl2 : ((gd_c191.drop 90).take 45).all (gd_okE gd_r191) = true := by decide +kernel
theorem gd_vl3 : ((gd_c191.drop 135).take 45).all (gd_okE gd_r191) = true := by decide +kernel
