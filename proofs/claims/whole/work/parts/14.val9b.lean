theorem gd_vl4 : ((gd_c191.drop 180).take 45).all (gd_okE gd_r191) = true := by decide +kernel
theorem gd_vl5 : ((gd_c191.drop 225).take 45).all (gd_okE gd_r191) = true := by decide +kernel
theorem gd_vl6 : ((gd_c191.drop 270).take 45).all (gd_okE gd_r191) = true := by decide +kernel
theorem gd_vl7 : ((gd_c191.drop 315).take 45).all (gd_okE gd_r191) = true := by decide +kernel
