theorem gd_vl8 : ((gd_c191.drop 360).take 45).all (gd_okE gd_r191) = true := by decide +kernel
theorem gd_vl9 : ((gd_c191.drop 405).take 45).all (gd_okE gd_r191) = true := by decide +kernel
theorem gd_vl10 : ((gd_c191.drop 450).take 45).all (gd_okE gd_r191) = true := by decide +kernel
theorem gd_vl11 : ((gd_c191.drop 495).take 45).all (gd_okE gd_r191) = true := by decide +kernel
