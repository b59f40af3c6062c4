/-! Rows of the law, pieces. -/
theorem pm_rl_24 : (((pm_rwf 143).drop 600).take 25).all (pm_okr 143) = true := by decide +kernel
theorem pm_rl_25 : (((pm_rwf 143).drop 625).take 25).all (pm_okr 143) = true := by decide +kernel
theorem pm_rl_26 : (((pm_rwf 143).drop 650).take 25).all (pm_okr 143) = true := by decide +kernel
theorem pm_rl_27 : (((pm_rwf 143).drop 675).take 25).all (pm_okr 143) = true := by decide +kernel
theorem pm_rl_28 : (((pm_rwf 143).drop 700).take 25).all (pm_okr 143) = true := by decide +kernel
theorem pm_rl_29 : (((pm_rwf 143).drop 725).take 25).all (pm_okr 143) = true := by decide +kernel
theorem pm_rl_30 : (((pm_rwf 143).drop 750).take 25).all (pm_okr 143) = true := by decide +kernel
theorem pm_rl_31 : (((pm_rwf 143).drop 775).take 25).all (pm_okr 143) = true := by decide +kernel
