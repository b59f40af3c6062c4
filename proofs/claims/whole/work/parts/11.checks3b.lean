/-! Rows of the law, pieces. -/
theorem pm_rl_8 : (((pm_rwf 143).drop 200).take 25).all (pm_okr 143) = true := by decide +kernel
theorem pm_rl_9 : (((pm_rwf 143).drop 225).take 25).all (pm_okr 143) = true := by decide +kernel
theorem pm_rl_10 : (((pm_rwf 143).drop 250).take 25).all (pm_okr 143) = true := by decide +kernel
theorem pm_rl_11 : (((pm_rwf 143).drop 275).take 25).all (pm_okr 143) = true := by decide +kernel
theorem pm_rl_12 : (((pm_rwf 143).drop 300).take 25).all (pm_okr 143) = true := by decide +kernel
theorem pm_rl_13 : (((pm_rwf 143).drop 325).take 25).all (pm_okr 143) = true := by decide +kernel
theorem pm_rl_14 : (((pm_rwf 143).drop 350).take 25).all (pm_okr 143) = true := by decide +kernel
theorem pm_rl_15 : (((pm_rwf 143).drop 375).take 25).all (pm_okr 143) = true := by decide +kernel
