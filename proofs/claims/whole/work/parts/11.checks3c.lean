/-! Rows of the law, pieces. -/
theorem pm_rl_16 : (((pm_rwf 143).drop 400).take 25).all (pm_okr 143) = true := by decide +kernel
theorem pm_rl_17 : (((pm_rwf 143).drop 425).take 25).all (pm_okr 143) = true := by decide +kernel
theorem pm_rl_18 : (((pm_rwf 143).drop 450).take 25).all (pm_okr 143) = true := by decide +kernel
theorem pm_rl_19 : (((pm_rwf 143).drop 475).take 25).all (pm_okr 143) = true := by decide +kernel
theorem pm_rl_20 : (((pm_rwf 143).drop 500).take 25).all (pm_okr 143) = true := by decide +kernel
theorem pm_rl_21 : (((pm_rwf 143).drop 525).take 25).all (pm_okr 143) = true := by decide +kernel
theorem pm_rl_22 : (((pm_rwf 143).drop 550).take 25).all (pm_okr 143) = true := by decide +kernel
theorem pm_rl_23 : (((pm_rwf 143).drop 575).take 25).all (pm_okr 143) = true := by decide +kernel
