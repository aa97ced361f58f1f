theorem gd_vl12 : ((gd_c191.drop 540).take 45).all (gd_okE gd_r191) = true := by decide +kernel
theorem gd_vl13 : ((gd_c191.drop 585).take 45).all (gd_okE gd_r191) = true := by decide +kernel
theorem gd_vl14 : ((gd_c191.drop 630).take 45).all (gd_okE gd_r191) = true := by decide +kernel
theorem gd_vl15 : ((gd_c191.drop 675).take 45).all (gd_okE gd_r191) = true := by decide +kernel
