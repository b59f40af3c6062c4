/-! Rows of the law, pieces. -/
theorem pm_rl_0 : (((pm_rwf 143).drop 0).take 25).all (pm_okr 143) = true := by decide +kernel
theorem pm_rl_1 : (((pm_rwf 143).drop 25).take 25).all (pm_okr 143) = true := by decide +kernel
theorem pm_rl_2 : (((pm_rwf 143).drop 50).take 25).all (pm_okr 143) = true := by decide +kernel
theorem pm_rl_3 : (((pm_rwf 143).drop 75).take 25).all (pm_okr 143) = true := by decide +kernel
theorem pm_rl_4 : (((pm_rwf 143).drop 100).take 25).all (pm_okr 143) = true := by decide +kernel
theorem pm_rl_5 : (((pm_rwf 143).drop 125).take 25).all (pm_okr 143) = true := by decide +kernel
theorem pm_rl_6 : (((pm_rwf 143).drop 150).take 25).all (pm_okr 143) = true := by decide +kernel
theorem pm_rl_7 : (((pm_rwf 143).drop 175).take 25).all (pm_okr 143) = true := by decide +kernel
