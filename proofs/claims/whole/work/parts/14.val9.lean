theorem gd_v191 : gd_c191.all (gd_okE gd_r191) = true := by decide +kernel
