/-! Each row of each method. -/
theorem pm_rr_0 : ∀ a, a < 0 → (pm_rwf a).all (pm_okr a) = true := lt_0
theorem pm_r_0 : (pm_rwf 0).all (pm_okr 0) = true := by decide +kernel
theorem pm_rr_1 : ∀ a, a < 1 → (pm_rwf a).all (pm_okr a) = true := lt_s pm_rr_0 pm_r_0
theorem pm_r_1 : (pm_rwf 1).all (pm_okr 1) = true := by decide +kernel
theorem pm_rr_2 : ∀ a, a < 2 → (pm_rwf a).all (pm_okr a) = true := lt_s pm_rr_1 pm_r_1
theorem pm_r_2 : (pm_rwf 2).all (pm_okr 2) = true := by decide +kernel
theorem pm_rr_3 : ∀ a, a < 3 → (pm_rwf a).all (pm_okr a) = true := lt_s pm_rr_2 pm_r_2
theorem pm_r_3 : (pm_rwf 3).all (pm_okr 3) = true := by decide +kernel
theorem pm_rr_4 : ∀ a, a < 4 → (pm_rwf a).all (pm_okr a) = true := lt_s pm_rr_3 pm_r_3
theorem pm_r_4 : (pm_rwf 4).all (pm_okr 4) = true := by decide +kernel
theorem pm_rr_5 : ∀ a, a < 5 → (pm_rwf a).all (pm_okr a) = true := lt_s pm_rr_4 pm_r_4
theorem pm_r_5 : (pm_rwf 5).all (pm_okr 5) = true := by decide +kernel
theorem pm_rr_6 : ∀ a, a < 6 → (pm_rwf a).all (pm_okr a) = true := lt_s pm_rr_5 pm_r_5
theorem pm_r_6 : (pm_rwf 6).all (pm_okr 6) = true := by decide +kernel
theorem pm_rr_7 : ∀ a, a < 7 → (pm_rwf a).all (pm_okr a) = true := lt_s pm_rr_6 pm_r_6
theorem pm_r_7 : (pm_rwf 7).all (pm_okr 7) = true := by decide +kernel
theorem pm_rr_8 : ∀ a, a < 8 → (pm_rwf a).all (pm_okr a) = true := lt_s pm_rr_7 pm_r_7
theorem pm_r_8 : (pm_rwf 8).all (pm_okr 8) = true := by decide +kernel
theorem pm_rr_9 : ∀ a, a < 9 → (pm_rwf a).all (pm_okr a) = true := lt_s pm_rr_8 pm_r_8
theorem pm_r_9 : (pm_rwf 9).all (pm_okr 9) = true := by decide +kernel
theorem pm_rr_10 : ∀ a, a < 10 → (pm_rwf a).all (pm_okr a) = true := lt_s pm_rr_9 pm_r_9
theorem pm_r_10 : (pm_rwf 10).all (pm_okr 10) = true := by decide +kernel
theorem pm_rr_11 : ∀ a, a < 11 → (pm_rwf a).all (pm_okr a) = true := lt_s pm_rr_10 pm_r_10
theorem pm_r_11 : (pm_rwf 11).all (pm_okr 11) = true := by decide +kernel
theorem pm_rr_12 : ∀ a, a < 12 → (pm_rwf a).all (pm_okr a) = true := lt_s pm_rr_11 pm_r_11
theorem pm_r_12 : (pm_rwf 12).all (pm_okr 12) = true := by decide +kernel
theorem pm_rr_13 : ∀ a, a < 13 → (pm_rwf a).all (pm_okr a) = true := lt_s pm_rr_12 pm_r_12
theorem pm_r_13 : (pm_rwf 13).all (pm_okr 13) = true := by decide +kernel
theorem pm_rr_14 : ∀ a, a < 14 → (pm_rwf a).all (pm_okr a) = true := lt_s pm_rr_13 pm_r_13
theorem pm_r_14 : (pm_rwf 14).all (pm_okr 14) = true := by decide +kernel
theorem pm_rr_15 : ∀ a, a < 15 → (pm_rwf a).all (pm_okr a) = true := lt_s pm_rr_14 pm_r_14
theorem pm_r_15 : (pm_rwf 15).all (pm_okr 15) = true := by decide +kernel
theorem pm_rr_16 : ∀ a, a < 16 → (pm_rwf a).all (pm_okr a) = true := lt_s pm_rr_15 pm_r_15
theorem pm_r_16 : (pm_rwf 16).all (pm_okr 16) = true := by decide +kernel
theorem pm_rr_17 : ∀ a, a < 17 → (pm_rwf a).all (pm_okr a) = true := lt_s pm_rr_16 pm_r_16
theorem pm_r_17 : (pm_rwf 17).all (pm_okr 17) = true := by decide +kernel
theorem pm_rr_18 : ∀ a, a < 18 → (pm_rwf a).all (pm_okr a) = true := lt_s pm_rr_17 pm_r_17
theorem pm_r_18 : (pm_rwf 18).all (pm_okr 18) = true := by decide +kernel
theorem pm_rr_19 : ∀ a, a < 19 → (pm_rwf a).all (pm_okr a) = true := lt_s pm_rr_18 pm_r_18
theorem pm_r_19 : (pm_rwf 19).all (pm_okr 19) = true := by decide +kernel
theorem pm_rr_20 : ∀ a, a < 20 → (pm_rwf a).all (pm_okr a) = true := lt_s pm_rr_19 pm_r_19
theorem pm_r_20 : (pm_rwf 20).all (pm_okr 20) = true := by decide +kernel
theorem pm_rr_21 : ∀ a, a < 21 → (pm_rwf a).all (pm_okr a) = true := lt_s pm_rr_20 pm_r_20
theorem pm_r_21 : (pm_rwf 21).all (pm_okr 21) = true := by decide +kernel
theorem pm_rr_22 : ∀ a, a < 22 → (pm_rwf a).all (pm_okr a) = true := lt_s pm_rr_21 pm_r_21
theorem pm_r_22 : (pm_rwf 22).all (pm_okr 22) = true := by decide +kernel
theorem pm_rr_23 : ∀ a, a < 23 → (pm_rwf a).all (pm_okr a) = true := lt_s pm_rr_22 pm_r_22
theorem pm_r_23 : (pm_rwf 23).all (pm_okr 23) = true := by decide +kernel
theorem pm_rr_24 : ∀ a, a < 24 → (pm_rwf a).all (pm_okr a) = true := lt_s pm_rr_23 pm_r_23
theorem pm_r_24 : (pm_rwf 24).all (pm_okr 24) = true := by decide +kernel
theorem pm_rr_25 : ∀ a, a < 25 → (pm_rwf a).all (pm_okr a) = true := lt_s pm_rr_24 pm_r_24
theorem pm_r_25 : (pm_rwf 25).all (pm_okr 25) = true := by decide +kernel
theorem pm_rr_26 : ∀ a, a < 26 → (pm_rwf a).all (pm_okr a) = true := lt_s pm_rr_25 pm_r_25
theorem pm_r_26 : (pm_rwf 26).all (pm_okr 26) = true := by decide +kernel
theorem pm_rr_27 : ∀ a, a < 27 → (pm_rwf a).all (pm_okr a) = true := lt_s pm_rr_26 pm_r_26
theorem pm_r_27 : (pm_rwf 27).all (pm_okr 27) = true := by decide +kernel
theorem pm_rr_28 : ∀ a, a < 28 → (pm_rwf a).all (pm_okr a) = true := lt_s pm_rr_27 pm_r_27
theorem pm_r_28 : (pm_rwf 28).all (pm_okr 28) = true := by decide +kernel
theorem pm_rr_29 : ∀ a, a < 29 → (pm_rwf a).all (pm_okr a) = true := lt_s pm_rr_28 pm_r_28
theorem pm_r_29 : (pm_rwf 29).all (pm_okr 29) = true := by decide +kernel
theorem pm_rr_30 : ∀ a, a < 30 → (pm_rwf a).all (pm_okr a) = true := lt_s pm_rr_29 pm_r_29
theorem pm_r_30 : (pm_rwf 30).all (pm_okr 30) = true := by decide +kernel
theorem pm_rr_31 : ∀ a, a < 31 → (pm_rwf a).all (pm_okr a) = true := lt_s pm_rr_30 pm_r_30
theorem pm_r_31 : (pm_rwf 31).all (pm_okr 31) = true := by decide +kernel
theorem pm_rr_32 : ∀ a, a < 32 → (pm_rwf a).all (pm_okr a) = true := lt_s pm_rr_31 pm_r_31
theorem pm_r_32 : (pm_rwf 32).all (pm_okr 32) = true := by decide +kernel
theorem pm_rr_33 : ∀ a, a < 33 → (pm_rwf a).all (pm_okr a) = true := lt_s pm_rr_32 pm_r_32
theorem pm_r_33 : (pm_rwf 33).all (pm_okr 33) = true := by decide +kernel
theorem pm_rr_34 : ∀ a, a < 34 → (pm_rwf a).all (pm_okr a) = true := lt_s pm_rr_33 pm_r_33
theorem pm_r_34 : (pm_rwf 34).all (pm_okr 34) = true := by decide +kernel
theorem pm_rr_35 : ∀ a, a < 35 → (pm_rwf a).all (pm_okr a) = true := lt_s pm_rr_34 pm_r_34
theorem pm_r_35 : (pm_rwf 35).all (pm_okr 35) = true := by decide +kernel
theorem pm_rr_36 : ∀ a, a < 36 → (pm_rwf a).all (pm_okr a) = true := lt_s pm_rr_35 pm_r_35
theorem pm_r_36 : (pm_rwf 36).all (pm_okr 36) = true := by decide +kernel
theorem pm_rr_37 : ∀ a, a < 37 → (pm_rwf a).all (pm_okr a) = true := lt_s pm_rr_36 pm_r_36
theorem pm_r_37 : (pm_rwf 37).all (pm_okr 37) = true := by decide +kernel
theorem pm_rr_38 : ∀ a, a < 38 → (pm_rwf a).all (pm_okr a) = true := lt_s pm_rr_37 pm_r_37
theorem pm_r_38 : (pm_rwf 38).all (pm_okr 38) = true := by decide +kernel
theorem pm_rr_39 : ∀ a, a < 39 → (pm_rwf a).all (pm_okr a) = true := lt_s pm_rr_38 pm_r_38
theorem pm_r_39 : (pm_rwf 39).all (pm_okr 39) = true := by decide +kernel
theorem pm_rr_40 : ∀ a, a < 40 → (pm_rwf a).all (pm_okr a) = true := lt_s pm_rr_39 pm_r_39
theorem pm_r_40 : (pm_rwf 40).all (pm_okr 40) = true := by decide +kernel
theorem pm_rr_41 : ∀ a, a < 41 → (pm_rwf a).all (pm_okr a) = true := lt_s pm_rr_40 pm_r_40
theorem pm_r_41 : (pm_rwf 41).all (pm_okr 41) = true := by decide +kernel
theorem pm_rr_42 : ∀ a, a < 42 → (pm_rwf a).all (pm_okr a) = true := lt_s pm_rr_41 pm_r_41
theorem pm_r_42 : (pm_rwf 42).all (pm_okr 42) = true := by decide +kernel
theorem pm_rr_43 : ∀ a, a < 43 → (pm_rwf a).all (pm_okr a) = true := lt_s pm_rr_42 pm_r_42
theorem pm_r_43 : (pm_rwf 43).all (pm_okr 43) = true := by decide +kernel
theorem pm_rr_44 : ∀ a, a < 44 → (pm_rwf a).all (pm_okr a) = true := lt_s pm_rr_43 pm_r_43
theorem pm_r_44 : (pm_rwf 44).all (pm_okr 44) = true := by decide +kernel
theorem pm_rr_45 : ∀ a, a < 45 → (pm_rwf a).all (pm_okr a) = true := lt_s pm_rr_44 pm_r_44
theorem pm_r_45 : (pm_rwf 45).all (pm_okr 45) = true := by decide +kernel
theorem pm_rr_46 : ∀ a, a < 46 → (pm_rwf a).all (pm_okr a) = true := lt_s pm_rr_45 pm_r_45
theorem pm_r_46 : (pm_rwf 46).all (pm_okr 46) = true := by decide +kernel
theorem pm_rr_47 : ∀ a, a < 47 → (pm_rwf a).all (pm_okr a) = true := lt_s pm_rr_46 pm_r_46
theorem pm_r_47 : (pm_rwf 47).all (pm_okr 47) = true := by decide +kernel
theorem pm_rr_48 : ∀ a, a < 48 → (pm_rwf a).all (pm_okr a) = true := lt_s pm_rr_47 pm_r_47
theorem pm_r_48 : (pm_rwf 48).all (pm_okr 48) = true := by decide +kernel
theorem pm_rr_49 : ∀ a, a < 49 → (pm_rwf a).all (pm_okr a) = true := lt_s pm_rr_48 pm_r_48
theorem pm_r_49 : (pm_rwf 49).all (pm_okr 49) = true := by decide +kernel
theorem pm_rr_50 : ∀ a, a < 50 → (pm_rwf a).all (pm_okr a) = true := lt_s pm_rr_49 pm_r_49
theorem pm_r_50 : (pm_rwf 50).all (pm_okr 50) = true := by decide +kernel
theorem pm_rr_51 : ∀ a, a < 51 → (pm_rwf a).all (pm_okr a) = true := lt_s pm_rr_50 pm_r_50
theorem pm_r_51 : (pm_rwf 51).all (pm_okr 51) = true := by decide +kernel
theorem pm_rr_52 : ∀ a, a < 52 → (pm_rwf a).all (pm_okr a) = true := lt_s pm_rr_51 pm_r_51
theorem pm_r_52 : (pm_rwf 52).all (pm_okr 52) = true := by decide +kernel
theorem pm_rr_53 : ∀ a, a < 53 → (pm_rwf a).all (pm_okr a) = true := lt_s pm_rr_52 pm_r_52
theorem pm_r_53 : (pm_rwf 53).all (pm_okr 53) = true := by decide +kernel
theorem pm_rr_54 : ∀ a, a < 54 → (pm_rwf a).all (pm_okr a) = true := lt_s pm_rr_53 pm_r_53
theorem pm_r_54 : (pm_rwf 54).all (pm_okr 54) = true := by decide +kernel
theorem pm_rr_55 : ∀ a, a < 55 → (pm_rwf a).all (pm_okr a) = true := lt_s pm_rr_54 pm_r_54
theorem pm_r_55 : (pm_rwf 55).all (pm_okr 55) = true := by decide +kernel
theorem pm_rr_56 : ∀ a, a < 56 → (pm_rwf a).all (pm_okr a) = true := lt_s pm_rr_55 pm_r_55
theorem pm_r_56 : (pm_rwf 56).all (pm_okr 56) = true := by decide +kernel
theorem pm_rr_57 : ∀ a, a < 57 → (pm_rwf a).all (pm_okr a) = true := lt_s pm_rr_56 pm_r_56
theorem pm_r_57 : (pm_rwf 57).all (pm_okr 57) = true := by decide +kernel
theorem pm_rr_58 : ∀ a, a < 58 → (pm_rwf a).all (pm_okr a) = true := lt_s pm_rr_57 pm_r_57
theorem pm_r_58 : (pm_rwf 58).all (pm_okr 58) = true := by decide +kernel
theorem pm_rr_59 : ∀ a, a < 59 → (pm_rwf a).all (pm_okr a) = true := lt_s pm_rr_58 pm_r_58
theorem pm_r_59 : (pm_rwf 59).all (pm_okr 59) = true := by decide +kernel
theorem pm_rr_60 : ∀ a, a < 60 → (pm_rwf a).all (pm_okr a) = true := lt_s pm_rr_59 pm_r_59
theorem pm_r_60 : (pm_rwf 60).all (pm_okr 60) = true := by decide +kernel
theorem pm_rr_61 : ∀ a, a < 61 → (pm_rwf a).all (pm_okr a) = true := lt_s pm_rr_60 pm_r_60
theorem pm_r_61 : (pm_rwf 61).all (pm_okr 61) = true := by decide +kernel
theorem pm_rr_62 : ∀ a, a < 62 → (pm_rwf a).all (pm_okr a) = true := lt_s pm_rr_61 pm_r_61
theorem pm_r_62 : (pm_rwf 62).all (pm_okr 62) = true := by decide +kernel
theorem pm_rr_63 : ∀ a, a < 63 → (pm_rwf a).all (pm_okr a) = true := lt_s pm_rr_62 pm_r_62
theorem pm_r_63 : (pm_rwf 63).all (pm_okr 63) = true := by decide +kernel
theorem pm_rr_64 : ∀ a, a < 64 → (pm_rwf a).all (pm_okr a) = true := lt_s pm_rr_63 pm_r_63
theorem pm_r_64 : (pm_rwf 64).all (pm_okr 64) = true := by decide +kernel
theorem pm_rr_65 : ∀ a, a < 65 → (pm_rwf a).all (pm_okr a) = true := lt_s pm_rr_64 pm_r_64
theorem pm_r_65 : (pm_rwf 65).all (pm_okr 65) = true := by decide +kernel
theorem pm_rr_66 : ∀ a, a < 66 → (pm_rwf a).all (pm_okr a) = true := lt_s pm_rr_65 pm_r_65
theorem pm_r_66 : (pm_rwf 66).all (pm_okr 66) = true := by decide +kernel
theorem pm_rr_67 : ∀ a, a < 67 → (pm_rwf a).all (pm_okr a) = true := lt_s pm_rr_66 pm_r_66
theorem pm_r_67 : (pm_rwf 67).all (pm_okr 67) = true := by decide +kernel
theorem pm_rr_68 : ∀ a, a < 68 → (pm_rwf a).all (pm_okr a) = true := lt_s pm_rr_67 pm_r_67
theorem pm_r_68 : (pm_rwf 68).all (pm_okr 68) = true := by decide +kernel
theorem pm_rr_69 : ∀ a, a < 69 → (pm_rwf a).all (pm_okr a) = true := lt_s pm_rr_68 pm_r_68
theorem pm_r_69 : (pm_rwf 69).all (pm_okr 69) = true := by decide +kernel
theorem pm_rr_70 : ∀ a, a < 70 → (pm_rwf a).all (pm_okr a) = true := lt_s pm_rr_69 pm_r_69
theorem pm_r_70 : (pm_rwf 70).all (pm_okr 70) = true := by decide +kernel
theorem pm_rr_71 : ∀ a, a < 71 → (pm_rwf a).all (pm_okr a) = true := lt_s pm_rr_70 pm_r_70
theorem pm_r_71 : (pm_rwf 71).all (pm_okr 71) = true := by decide +kernel
theorem pm_rr_72 : ∀ a, a < 72 → (pm_rwf a).all (pm_okr a) = true := lt_s pm_rr_71 pm_r_71
theorem pm_r_72 : (pm_rwf 72).all (pm_okr 72) = true := by decide +kernel
theorem pm_rr_73 : ∀ a, a < 73 → (pm_rwf a).all (pm_okr a) = true := lt_s pm_rr_72 pm_r_72
theorem pm_r_73 : (pm_rwf 73).all (pm_okr 73) = true := by decide +kernel
theorem pm_rr_74 : ∀ a, a < 74 → (pm_rwf a).all (pm_okr a) = true := lt_s pm_rr_73 pm_r_73
theorem pm_r_74 : (pm_rwf 74).all (pm_okr 74) = true := by decide +kernel
theorem pm_rr_75 : ∀ a, a < 75 → (pm_rwf a).all (pm_okr a) = true := lt_s pm_rr_74 pm_r_74
theorem pm_r_75 : (pm_rwf 75).all (pm_okr 75) = true := by decide +kernel
theorem pm_rr_76 : ∀ a, a < 76 → (pm_rwf a).all (pm_okr a) = true := lt_s pm_rr_75 pm_r_75
theorem pm_r_76 : (pm_rwf 76).all (pm_okr 76) = true := by decide +kernel
theorem pm_rr_77 : ∀ a, a < 77 → (pm_rwf a).all (pm_okr a) = true := lt_s pm_rr_76 pm_r_76
theorem pm_r_77 : (pm_rwf 77).all (pm_okr 77) = true := by decide +kernel
theorem pm_rr_78 : ∀ a, a < 78 → (pm_rwf a).all (pm_okr a) = true := lt_s pm_rr_77 pm_r_77
theorem pm_r_78 : (pm_rwf 78).all (pm_okr 78) = true := by decide +kernel
theorem pm_rr_79 : ∀ a, a < 79 → (pm_rwf a).all (pm_okr a) = true := lt_s pm_rr_78 pm_r_78
theorem pm_r_79 : (pm_rwf 79).all (pm_okr 79) = true := by decide +kernel
theorem pm_rr_80 : ∀ a, a < 80 → (pm_rwf a).all (pm_okr a) = true := lt_s pm_rr_79 pm_r_79
theorem pm_r_80 : (pm_rwf 80).all (pm_okr 80) = true := by decide +kernel
theorem pm_rr_81 : ∀ a, a < 81 → (pm_rwf a).all (pm_okr a) = true := lt_s pm_rr_80 pm_r_80
theorem pm_r_81 : (pm_rwf 81).all (pm_okr 81) = true := by decide +kernel
theorem pm_rr_82 : ∀ a, a < 82 → (pm_rwf a).all (pm_okr a) = true := lt_s pm_rr_81 pm_r_81
theorem pm_r_82 : (pm_rwf 82).all (pm_okr 82) = true := by decide +kernel
theorem pm_rr_83 : ∀ a, a < 83 → (pm_rwf a).all (pm_okr a) = true := lt_s pm_rr_82 pm_r_82
theorem pm_r_83 : (pm_rwf 83).all (pm_okr 83) = true := by decide +kernel
theorem pm_rr_84 : ∀ a, a < 84 → (pm_rwf a).all (pm_okr a) = true := lt_s pm_rr_83 pm_r_83
theorem pm_r_84 : (pm_rwf 84).all (pm_okr 84) = true := by decide +kernel
theorem pm_rr_85 : ∀ a, a < 85 → (pm_rwf a).all (pm_okr a) = true := lt_s pm_rr_84 pm_r_84
theorem pm_r_85 : (pm_rwf 85).all (pm_okr 85) = true := by decide +kernel
theorem pm_rr_86 : ∀ a, a < 86 → (pm_rwf a).all (pm_okr a) = true := lt_s pm_rr_85 pm_r_85
theorem pm_r_86 : (pm_rwf 86).all (pm_okr 86) = true := by decide +kernel
theorem pm_rr_87 : ∀ a, a < 87 → (pm_rwf a).all (pm_okr a) = true := lt_s pm_rr_86 pm_r_86
theorem pm_r_87 : (pm_rwf 87).all (pm_okr 87) = true := by decide +kernel
theorem pm_rr_88 : ∀ a, a < 88 → (pm_rwf a).all (pm_okr a) = true := lt_s pm_rr_87 pm_r_87
theorem pm_r_88 : (pm_rwf 88).all (pm_okr 88) = true := by decide +kernel
theorem pm_rr_89 : ∀ a, a < 89 → (pm_rwf a).all (pm_okr a) = true := lt_s pm_rr_88 pm_r_88
theorem pm_r_89 : (pm_rwf 89).all (pm_okr 89) = true := by decide +kernel
theorem pm_rr_90 : ∀ a, a < 90 → (pm_rwf a).all (pm_okr a) = true := lt_s pm_rr_89 pm_r_89
theorem pm_r_90 : (pm_rwf 90).all (pm_okr 90) = true := by decide +kernel
theorem pm_rr_91 : ∀ a, a < 91 → (pm_rwf a).all (pm_okr a) = true := lt_s pm_rr_90 pm_r_90
theorem pm_r_91 : (pm_rwf 91).all (pm_okr 91) = true := by decide +kernel
theorem pm_rr_92 : ∀ a, a < 92 → (pm_rwf a).all (pm_okr a) = true := lt_s pm_rr_91 pm_r_91
theorem pm_r_92 : (pm_rwf 92).all (pm_okr 92) = true := by decide +kernel
theorem pm_rr_93 : ∀ a, a < 93 → (pm_rwf a).all (pm_okr a) = true := lt_s pm_rr_92 pm_r_92
theorem pm_r_93 : (pm_rwf 93).all (pm_okr 93) = true := by decide +kernel
theorem pm_rr_94 : ∀ a, a < 94 → (pm_rwf a).all (pm_okr a) = true := lt_s pm_rr_93 pm_r_93
theorem pm_r_94 : (pm_rwf 94).all (pm_okr 94) = true := by decide +kernel
theorem pm_rr_95 : ∀ a, a < 95 → (pm_rwf a).all (pm_okr a) = true := lt_s pm_rr_94 pm_r_94
theorem pm_r_95 : (pm_rwf 95).all (pm_okr 95) = true := by decide +kernel
theorem pm_rr_96 : ∀ a, a < 96 → (pm_rwf a).all (pm_okr a) = true := lt_s pm_rr_95 pm_r_95
theorem pm_r_96 : (pm_rwf 96).all (pm_okr 96) = true := by decide +kernel
theorem pm_rr_97 : ∀ a, a < 97 → (pm_rwf a).all (pm_okr a) = true := lt_s pm_rr_96 pm_r_96
theorem pm_r_97 : (pm_rwf 97).all (pm_okr 97) = true := by decide +kernel
theorem pm_rr_98 : ∀ a, a < 98 → (pm_rwf a).all (pm_okr a) = true := lt_s pm_rr_97 pm_r_97
theorem pm_r_98 : (pm_rwf 98).all (pm_okr 98) = true := by decide +kernel
theorem pm_rr_99 : ∀ a, a < 99 → (pm_rwf a).all (pm_okr a) = true := lt_s pm_rr_98 pm_r_98
theorem pm_r_99 : (pm_rwf 99).all (pm_okr 99) = true := by decide +kernel
theorem pm_rr_100 : ∀ a, a < 100 → (pm_rwf a).all (pm_okr a) = true := lt_s pm_rr_99 pm_r_99
theorem pm_r_100 : (pm_rwf 100).all (pm_okr 100) = true := by decide +kernel
theorem pm_rr_101 : ∀ a, a < 101 → (pm_rwf a).all (pm_okr a) = true := lt_s pm_rr_100 pm_r_100
theorem pm_r_101 : (pm_rwf 101).all (pm_okr 101) = true := by decide +kernel
theorem pm_rr_102 : ∀ a, a < 102 → (pm_rwf a).all (pm_okr a) = true := lt_s pm_rr_101 pm_r_101
theorem pm_r_102 : (pm_rwf 102).all (pm_okr 102) = true := by decide +kernel
theorem pm_rr_103 : ∀ a, a < 103 → (pm_rwf a).all (pm_okr a) = true := lt_s pm_rr_102 pm_r_102
theorem pm_r_103 : (pm_rwf 103).all (pm_okr 103) = true := by decide +kernel
theorem pm_rr_104 : ∀ a, a < 104 → (pm_rwf a).all (pm_okr a) = true := lt_s pm_rr_103 pm_r_103
theorem pm_r_104 : (pm_rwf 104).all (pm_okr 104) = true := by decide +kernel
theorem pm_rr_105 : ∀ a, a < 105 → (pm_rwf a).all (pm_okr a) = true := lt_s pm_rr_104 pm_r_104
theorem pm_r_105 : (pm_rwf 105).all (pm_okr 105) = true := by decide +kernel
theorem pm_rr_106 : ∀ a, a < 106 → (pm_rwf a).all (pm_okr a) = true := lt_s pm_rr_105 pm_r_105
theorem pm_r_106 : (pm_rwf 106).all (pm_okr 106) = true := by decide +kernel
theorem pm_rr_107 : ∀ a, a < 107 → (pm_rwf a).all (pm_okr a) = true := lt_s pm_rr_106 pm_r_106
theorem pm_r_107 : (pm_rwf 107).all (pm_okr 107) = true := by decide +kernel
theorem pm_rr_108 : ∀ a, a < 108 → (pm_rwf a).all (pm_okr a) = true := lt_s pm_rr_107 pm_r_107
theorem pm_r_108 : (pm_rwf 108).all (pm_okr 108) = true := by decide +kernel
theorem pm_rr_109 : ∀ a, a < 109 → (pm_rwf a).all (pm_okr a) = true := lt_s pm_rr_108 pm_r_108
theorem pm_r_109 : (pm_rwf 109).all (pm_okr 109) = true := by decide +kernel
theorem pm_rr_110 : ∀ a, a < 110 → (pm_rwf a).all (pm_okr a) = true := lt_s pm_rr_109 pm_r_109
theorem pm_r_110 : (pm_rwf 110).all (pm_okr 110) = true := by decide +kernel
theorem pm_rr_111 : ∀ a, a < 111 → (pm_rwf a).all (pm_okr a) = true := lt_s pm_rr_110 pm_r_110
theorem pm_r_111 : (pm_rwf 111).all (pm_okr 111) = true := by decide +kernel
theorem pm_rr_112 : ∀ a, a < 112 → (pm_rwf a).all (pm_okr a) = true := lt_s pm_rr_111 pm_r_111
theorem pm_r_112 : (pm_rwf 112).all (pm_okr 112) = true := by decide +kernel
theorem pm_rr_113 : ∀ a, a < 113 → (pm_rwf a).all (pm_okr a) = true := lt_s pm_rr_112 pm_r_112
theorem pm_r_113 : (pm_rwf 113).all (pm_okr 113) = true := by decide +kernel
theorem pm_rr_114 : ∀ a, a < 114 → (pm_rwf a).all (pm_okr a) = true := lt_s pm_rr_113 pm_r_113
theorem pm_r_114 : (pm_rwf 114).all (pm_okr 114) = true := by decide +kernel
theorem pm_rr_115 : ∀ a, a < 115 → (pm_rwf a).all (pm_okr a) = true := lt_s pm_rr_114 pm_r_114
theorem pm_r_115 : (pm_rwf 115).all (pm_okr 115) = true := by decide +kernel
theorem pm_rr_116 : ∀ a, a < 116 → (pm_rwf a).all (pm_okr a) = true := lt_s pm_rr_115 pm_r_115
theorem pm_r_116 : (pm_rwf 116).all (pm_okr 116) = true := by decide +kernel
theorem pm_rr_117 : ∀ a, a < 117 → (pm_rwf a).all (pm_okr a) = true := lt_s pm_rr_116 pm_r_116
theorem pm_r_117 : (pm_rwf 117).all (pm_okr 117) = true := by decide +kernel
theorem pm_rr_118 : ∀ a, a < 118 → (pm_rwf a).all (pm_okr a) = true := lt_s pm_rr_117 pm_r_117
theorem pm_r_118 : (pm_rwf 118).all (pm_okr 118) = true := by decide +kernel
theorem pm_rr_119 : ∀ a, a < 119 → (pm_rwf a).all (pm_okr a) = true := lt_s pm_rr_118 pm_r_118
theorem pm_r_119 : (pm_rwf 119).all (pm_okr 119) = true := by decide +kernel
theorem pm_rr_120 : ∀ a, a < 120 → (pm_rwf a).all (pm_okr a) = true := lt_s pm_rr_119 pm_r_119
theorem pm_r_120 : (pm_rwf 120).all (pm_okr 120) = true := by decide +kernel
theorem pm_rr_121 : ∀ a, a < 121 → (pm_rwf a).all (pm_okr a) = true := lt_s pm_rr_120 pm_r_120
theorem pm_r_121 : (pm_rwf 121).all (pm_okr 121) = true := by decide +kernel
theorem pm_rr_122 : ∀ a, a < 122 → (pm_rwf a).all (pm_okr a) = true := lt_s pm_rr_121 pm_r_121
theorem pm_r_122 : (pm_rwf 122).all (pm_okr 122) = true := by decide +kernel
theorem pm_rr_123 : ∀ a, a < 123 → (pm_rwf a).all (pm_okr a) = true := lt_s pm_rr_122 pm_r_122
theorem pm_r_123 : (pm_rwf 123).all (pm_okr 123) = true := by decide +kernel
theorem pm_rr_124 : ∀ a, a < 124 → (pm_rwf a).all (pm_okr a) = true := lt_s pm_rr_123 pm_r_123
theorem pm_r_124 : (pm_rwf 124).all (pm_okr 124) = true := by decide +kernel
theorem pm_rr_125 : ∀ a, a < 125 → (pm_rwf a).all (pm_okr a) = true := lt_s pm_rr_124 pm_r_124
theorem pm_r_125 : (pm_rwf 125).all (pm_okr 125) = true := by decide +kernel
theorem pm_rr_126 : ∀ a, a < 126 → (pm_rwf a).all (pm_okr a) = true := lt_s pm_rr_125 pm_r_125
theorem pm_r_126 : (pm_rwf 126).all (pm_okr 126) = true := by decide +kernel
theorem pm_rr_127 : ∀ a, a < 127 → (pm_rwf a).all (pm_okr a) = true := lt_s pm_rr_126 pm_r_126
theorem pm_r_127 : (pm_rwf 127).all (pm_okr 127) = true := by decide +kernel
theorem pm_rr_128 : ∀ a, a < 128 → (pm_rwf a).all (pm_okr a) = true := lt_s pm_rr_127 pm_r_127
theorem pm_r_128 : (pm_rwf 128).all (pm_okr 128) = true := by decide +kernel
theorem pm_rr_129 : ∀ a, a < 129 → (pm_rwf a).all (pm_okr a) = true := lt_s pm_rr_128 pm_r_128
theorem pm_r_129 : (pm_rwf 129).all (pm_okr 129) = true := by decide +kernel
theorem pm_rr_130 : ∀ a, a < 130 → (pm_rwf a).all (pm_okr a) = true := lt_s pm_rr_129 pm_r_129
theorem pm_r_130 : (pm_rwf 130).all (pm_okr 130) = true := by decide +kernel
theorem pm_rr_131 : ∀ a, a < 131 → (pm_rwf a).all (pm_okr a) = true := lt_s pm_rr_130 pm_r_130
theorem pm_r_131 : (pm_rwf 131).all (pm_okr 131) = true := by decide +kernel
theorem pm_rr_132 : ∀ a, a < 132 → (pm_rwf a).all (pm_okr a) = true := lt_s pm_rr_131 pm_r_131
theorem pm_r_132 : (pm_rwf 132).all (pm_okr 132) = true := by decide +kernel
theorem pm_rr_133 : ∀ a, a < 133 → (pm_rwf a).all (pm_okr a) = true := lt_s pm_rr_132 pm_r_132
theorem pm_r_133 : (pm_rwf 133).all (pm_okr 133) = true := by decide +kernel
theorem pm_rr_134 : ∀ a, a < 134 → (pm_rwf a).all (pm_okr a) = true := lt_s pm_rr_133 pm_r_133
theorem pm_r_134 : (pm_rwf 134).all (pm_okr 134) = true := by decide +kernel
theorem pm_rr_135 : ∀ a, a < 135 → (pm_rwf a).all (pm_okr a) = true := lt_s pm_rr_134 pm_r_134
theorem pm_r_135 : (pm_rwf 135).all (pm_okr 135) = true := by decide +kernel
theorem pm_rr_136 : ∀ a, a < 136 → (pm_rwf a).all (pm_okr a) = true := lt_s pm_rr_135 pm_r_135
theorem pm_r_136 : (pm_rwf 136).all (pm_okr 136) = true := by decide +kernel
theorem pm_rr_137 : ∀ a, a < 137 → (pm_rwf a).all (pm_okr a) = true := lt_s pm_rr_136 pm_r_136
theorem pm_r_137 : (pm_rwf 137).all (pm_okr 137) = true := by decide +kernel
theorem pm_rr_138 : ∀ a, a < 138 → (pm_rwf a).all (pm_okr a) = true := lt_s pm_rr_137 pm_r_137
theorem pm_r_138 : (pm_rwf 138).all (pm_okr 138) = true := by decide +kernel
theorem pm_rr_139 : ∀ a, a < 139 → (pm_rwf a).all (pm_okr a) = true := lt_s pm_rr_138 pm_r_138
theorem pm_r_139 : (pm_rwf 139).all (pm_okr 139) = true := by decide +kernel
theorem pm_rr_140 : ∀ a, a < 140 → (pm_rwf a).all (pm_okr a) = true := lt_s pm_rr_139 pm_r_139
theorem pm_r_140 : (pm_rwf 140).all (pm_okr 140) = true := by decide +kernel
theorem pm_rr_141 : ∀ a, a < 141 → (pm_rwf a).all (pm_okr a) = true := lt_s pm_rr_140 pm_r_140
theorem pm_r_141 : (pm_rwf 141).all (pm_okr 141) = true := by decide +kernel
theorem pm_rr_142 : ∀ a, a < 142 → (pm_rwf a).all (pm_okr a) = true := lt_s pm_rr_141 pm_r_141
theorem pm_r_142 : (pm_rwf 142).all (pm_okr 142) = true := by decide +kernel
theorem pm_rr_143 : ∀ a, a < 143 → (pm_rwf a).all (pm_okr a) = true := lt_s pm_rr_142 pm_r_142
