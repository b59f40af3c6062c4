/-! The tables are as the machine wants them. -/
def pm_jc : List Nat := [276, 281, 296, 304, 312, 328, 332, 340, 357, 398, 436, 456, 229, 233, 237, 241, 245, 481, 494, 498, 251, 254, 257, 260, 263, 269, 272, 348, 353, 367, 383, 219, 222, 225, 266, 292, 300, 308, 319, 324, 336, 344, 361, 371, 375, 379, 387, 390, 394, 402, 406, 410, 413, 423, 427, 432, 440, 444, 448, 452, 460, 464, 468, 473, 477, 485, 490, 502, 507, 513, 517, 521, 525, 529, 533, 537, 541, 545, 549, 650, 653, 656, 659, 663, 667, 671, 675, 679, 683, 687, 691, 695, 699, 703, 707, 711, 715, 719, 723, 727, 731, 735, 739, 743, 747, 751, 755, 759, 763, 767, 771, 775, 779, 783, 787, 790, 794, 798, 802, 806, 810, 814, 818, 822, 826, 830, 834, 838, 842, 846, 850, 854, 858, 862, 866, 870, 874, 878, 882, 886, 890, 416, 91]
def pm_ji : List Nat := [65, 65, 65, 65, 65, 65, 65, 65, 65, 65, 67, 67, 63, 63, 63, 63, 63, 63, 63, 63, 70, 70, 70, 70, 70, 70, 70, 66, 66, 66, 66, 62, 62, 62, 62, 62, 62, 62, 62, 62, 62, 62, 62, 62, 62, 62, 62, 62, 62, 62, 62, 62, 62, 62, 62, 62, 62, 62, 62, 62, 62, 62, 62, 62, 62, 62, 62, 62, 62, 62, 62, 62, 62, 62, 62, 62, 62, 62, 62, 68, 68, 68, 68, 68, 68, 68, 68, 68, 68, 68, 68, 68, 68, 68, 68, 68, 68, 68, 68, 68, 68, 68, 68, 68, 68, 68, 68, 68, 68, 68, 68, 68, 68, 68, 68, 68, 68, 68, 68, 68, 68, 68, 68, 68, 68, 68, 68, 68, 68, 68, 68, 68, 68, 68, 68, 68, 68, 68, 68, 68, 68, 72, 64]
def pm_jm : List Nat := [275, 280, 295, 303, 311, 327, 331, 339, 356, 397, 435, 455, 228, 232, 236, 240, 244, 480, 493, 497, 250, 253, 256, 259, 262, 268, 271, 347, 352, 366, 382, 217, 221, 224, 265, 290, 298, 306, 317, 322, 334, 343, 360, 369, 373, 377, 385, 389, 393, 401, 405, 408, 412, 421, 425, 430, 438, 442, 447, 451, 458, 462, 466, 472, 475, 483, 488, 500, 505, 511, 516, 520, 524, 528, 531, 535, 539, 543, 547, 648, 652, 655, 658, 662, 666, 670, 674, 678, 682, 686, 690, 694, 697, 702, 705, 710, 713, 718, 721, 725, 730, 733, 738, 742, 746, 750, 754, 757, 761, 765, 770, 773, 778, 782, 785, 789, 792, 796, 801, 804, 808, 812, 817, 821, 824, 828, 832, 837, 840, 844, 848, 852, 857, 860, 864, 869, 872, 876, 880, 884, 888, 415, 90]
def pm_js : List Nat := [5, 6, 7, 8, 9, 10, 11, 12, 16, 20, 23, 26, 0, 1, 2, 3, 4, 28, 29, 30, 0, 0, 0, 0, 0, 0, 0, 14, 15, 17, 18, 218, 0, 0, 0, 291, 299, 307, 318, 323, 335, 13, 0, 370, 374, 378, 386, 0, 19, 21, 22, 409, 0, 422, 426, 431, 439, 443, 24, 25, 459, 463, 467, 27, 476, 484, 489, 501, 506, 512, 31, 32, 33, 34, 532, 536, 540, 544, 548, 649, 0, 0, 0, 35, 36, 37, 38, 39, 40, 41, 42, 43, 698, 44, 706, 45, 714, 46, 722, 726, 47, 734, 48, 49, 50, 51, 52, 758, 762, 766, 53, 774, 54, 55, 786, 0, 793, 797, 56, 805, 809, 813, 57, 58, 825, 829, 833, 0, 841, 845, 849, 853, 59, 861, 865, 60, 873, 877, 881, 885, 889, 0, 0]
def pm_cP (y : Nat) : Prop := lw_tbl[pm_jc.getD y 0]? = some (Cond.code (pm_nm y) (pm_by y) (pm_ml y) (pm_ret y))
theorem pm_cc_0 : ∀ a, a < 0 → pm_cP a := lt_0
set_option maxRecDepth 100000 in
theorem pm_c_0 : lw_tbl[276]? = some (Cond.code yX0_become cX0_become 5 (none)) := rfl
theorem pm_cc_1 : ∀ a, a < 1 → pm_cP a := lt_s pm_cc_0 pm_c_0
set_option maxRecDepth 100000 in
theorem pm_c_1 : lw_tbl[281]? = some (Cond.code yX0_posts cX0_posts 1 (some .int)) := rfl
theorem pm_cc_2 : ∀ a, a < 2 → pm_cP a := lt_s pm_cc_1 pm_c_1
set_option maxRecDepth 100000 in
theorem pm_c_2 : lw_tbl[296]? = some (Cond.code yX0_hasField cX0_hasField 2 (some .boolean)) := rfl
theorem pm_cc_3 : ∀ a, a < 3 → pm_cP a := lt_s pm_cc_2 pm_c_2
set_option maxRecDepth 100000 in
theorem pm_c_3 : lw_tbl[304]? = some (Cond.code yX0_hasPost cX0_hasPost 2 (some .boolean)) := rfl
theorem pm_cc_4 : ∀ a, a < 4 → pm_cP a := lt_s pm_cc_3 pm_c_3
set_option maxRecDepth 100000 in
theorem pm_c_4 : lw_tbl[312]? = some (Cond.code yX0_letBy cX0_letBy 4 (some .int)) := rfl
theorem pm_cc_5 : ∀ a, a < 5 → pm_cP a := lt_s pm_cc_4 pm_c_4
set_option maxRecDepth 100000 in
theorem pm_c_5 : lw_tbl[328]? = some (Cond.code yX0_exists cX0_exists 1 (some .boolean)) := rfl
theorem pm_cc_6 : ∀ a, a < 6 → pm_cP a := lt_s pm_cc_5 pm_c_5
set_option maxRecDepth 100000 in
theorem pm_c_6 : lw_tbl[332]? = some (Cond.code yX0_hasDay cX0_hasDay 2 (some .boolean)) := rfl
theorem pm_cc_7 : ∀ a, a < 7 → pm_cP a := lt_s pm_cc_6 pm_c_6
set_option maxRecDepth 100000 in
theorem pm_c_7 : lw_tbl[340]? = some (Cond.code yX0_hasBehind cX0_hasBehind 2 (some .boolean)) := rfl
theorem pm_cc_8 : ∀ a, a < 8 → pm_cP a := lt_s pm_cc_7 pm_c_7
set_option maxRecDepth 100000 in
theorem pm_c_8 : lw_tbl[357]? = some (Cond.code yX0_goesOn cX0_goesOn 5 (some .int)) := rfl
theorem pm_cc_9 : ∀ a, a < 9 → pm_cP a := lt_s pm_cc_8 pm_c_8
set_option maxRecDepth 100000 in
theorem pm_c_9 : lw_tbl[398]? = some (Cond.code yX0_setsOfPosts cX0_setsOfPosts 1 (some .int)) := rfl
theorem pm_cc_10 : ∀ a, a < 10 → pm_cP a := lt_s pm_cc_9 pm_c_9
set_option maxRecDepth 100000 in
theorem pm_c_10 : lw_tbl[436]? = some (Cond.code yX1_keep cX1_keep 5 (some .int)) := rfl
theorem pm_cc_11 : ∀ a, a < 11 → pm_cP a := lt_s pm_cc_10 pm_c_10
set_option maxRecDepth 100000 in
theorem pm_c_11 : lw_tbl[456]? = some (Cond.code yX1_areSo cX1_areSo 4 (some .boolean)) := rfl
theorem pm_cc_12 : ∀ a, a < 12 → pm_cP a := lt_s pm_cc_11 pm_c_11
set_option maxRecDepth 100000 in
theorem pm_c_12 : lw_tbl[229]? = some (Cond.code yX2_faultOfCells cX2_faultOfCells 6 (some .int)) := rfl
theorem pm_cc_13 : ∀ a, a < 13 → pm_cP a := lt_s pm_cc_12 pm_c_12
set_option maxRecDepth 100000 in
theorem pm_c_13 : lw_tbl[233]? = some (Cond.code yX2_faultOfLane cX2_faultOfLane 3 (some .int)) := rfl
theorem pm_cc_14 : ∀ a, a < 14 → pm_cP a := lt_s pm_cc_13 pm_c_13
set_option maxRecDepth 100000 in
theorem pm_c_14 : lw_tbl[237]? = some (Cond.code yX2_isNothing cX2_isNothing 2 (some .boolean)) := rfl
theorem pm_cc_15 : ∀ a, a < 15 → pm_cP a := lt_s pm_cc_14 pm_c_14
set_option maxRecDepth 100000 in
theorem pm_c_15 : lw_tbl[241]? = some (Cond.code yX2_hasCells cX2_hasCells 4 (some .boolean)) := rfl
theorem pm_cc_16 : ∀ a, a < 16 → pm_cP a := lt_s pm_cc_15 pm_c_15
set_option maxRecDepth 100000 in
theorem pm_c_16 : lw_tbl[245]? = some (Cond.code yX2_read cX2_read 5 (none)) := rfl
theorem pm_cc_17 : ∀ a, a < 17 → pm_cP a := lt_s pm_cc_16 pm_c_16
set_option maxRecDepth 100000 in
theorem pm_c_17 : lw_tbl[481]? = some (Cond.code yX2_renew cX2_renew 4 (none)) := rfl
theorem pm_cc_18 : ∀ a, a < 18 → pm_cP a := lt_s pm_cc_17 pm_c_17
set_option maxRecDepth 100000 in
theorem pm_c_18 : lw_tbl[494]? = some (Cond.code yX2_hasCell cX2_hasCell 3 (some .boolean)) := rfl
theorem pm_cc_19 : ∀ a, a < 19 → pm_cP a := lt_s pm_cc_18 pm_c_18
set_option maxRecDepth 100000 in
theorem pm_c_19 : lw_tbl[498]? = some (Cond.code yX2_write cX2_write 4 (none)) := rfl
theorem pm_cc_20 : ∀ a, a < 20 → pm_cP a := lt_s pm_cc_19 pm_c_19
set_option maxRecDepth 100000 in
theorem pm_c_20 : lw_tbl[251]? = some (Cond.code yX3_firstFault cX3_firstFault 3 (some .int)) := rfl
theorem pm_cc_21 : ∀ a, a < 21 → pm_cP a := lt_s pm_cc_20 pm_c_20
set_option maxRecDepth 100000 in
theorem pm_c_21 : lw_tbl[254]? = some (Cond.code yX3_goesOn cX3_goesOn 6 (some .boolean)) := rfl
theorem pm_cc_22 : ∀ a, a < 22 → pm_cP a := lt_s pm_cc_21 pm_c_21
set_option maxRecDepth 100000 in
theorem pm_c_22 : lw_tbl[257]? = some (Cond.code yX3_digit cX3_digit 1 (some .int)) := rfl
theorem pm_cc_23 : ∀ a, a < 23 → pm_cP a := lt_s pm_cc_22 pm_c_22
set_option maxRecDepth 100000 in
theorem pm_c_23 : lw_tbl[260]? = some (Cond.code yX3_bordersAt cX3_bordersAt 1 (some .int)) := rfl
theorem pm_cc_24 : ∀ a, a < 24 → pm_cP a := lt_s pm_cc_23 pm_c_23
set_option maxRecDepth 100000 in
theorem pm_c_24 : lw_tbl[263]? = some (Cond.code yX3_rainsAt cX3_rainsAt 1 (some .int)) := rfl
theorem pm_cc_25 : ∀ a, a < 25 → pm_cP a := lt_s pm_cc_24 pm_c_24
set_option maxRecDepth 100000 in
theorem pm_c_25 : lw_tbl[269]? = some (Cond.code yX3_goesOnInBorder cX3_goesOnInBorder 2 (some .boolean)) := rfl
theorem pm_cc_26 : ∀ a, a < 26 → pm_cP a := lt_s pm_cc_25 pm_c_25
set_option maxRecDepth 100000 in
theorem pm_c_26 : lw_tbl[272]? = some (Cond.code yX3_kind cX3_kind 1 (some .int)) := rfl
theorem pm_cc_27 : ∀ a, a < 27 → pm_cP a := lt_s pm_cc_26 pm_c_26
set_option maxRecDepth 100000 in
theorem pm_c_27 : lw_tbl[348]? = some (Cond.code yX4_begin cX4_begin 1 (none)) := rfl
theorem pm_cc_28 : ∀ a, a < 28 → pm_cP a := lt_s pm_cc_27 pm_c_27
set_option maxRecDepth 100000 in
theorem pm_c_28 : lw_tbl[353]? = some (Cond.code yX4_pass cX4_pass 9 (none)) := rfl
theorem pm_cc_29 : ∀ a, a < 29 → pm_cP a := lt_s pm_cc_28 pm_c_28
set_option maxRecDepth 100000 in
theorem pm_c_29 : lw_tbl[367]? = some (Cond.code yX4_floodOn cX4_floodOn 3 (none)) := rfl
theorem pm_cc_30 : ∀ a, a < 30 → pm_cP a := lt_s pm_cc_29 pm_c_29
set_option maxRecDepth 100000 in
theorem pm_c_30 : lw_tbl[383]? = some (Cond.code yX4_contented cX4_contented 4 (some .int)) := rfl
theorem pm_cc_31 : ∀ a, a < 31 → pm_cP a := lt_s pm_cc_30 pm_c_30
set_option maxRecDepth 100000 in
theorem pm_c_31 : lw_tbl[219]? = some (Cond.code yX5_land cX5_land 6 (some .int)) := rfl
theorem pm_cc_32 : ∀ a, a < 32 → pm_cP a := lt_s pm_cc_31 pm_c_31
set_option maxRecDepth 100000 in
theorem pm_c_32 : lw_tbl[222]? = some (Cond.code yX5_isSheet cX5_isSheet 1 (some .boolean)) := rfl
theorem pm_cc_33 : ∀ a, a < 33 → pm_cP a := lt_s pm_cc_32 pm_c_32
set_option maxRecDepth 100000 in
theorem pm_c_33 : lw_tbl[225]? = some (Cond.code yX5_isLane cX5_isLane 1 (some .boolean)) := rfl
theorem pm_cc_34 : ∀ a, a < 34 → pm_cP a := lt_s pm_cc_33 pm_c_33
set_option maxRecDepth 100000 in
theorem pm_c_34 : lw_tbl[266]? = some (Cond.code yX5_isDigit cX5_isDigit 1 (some .boolean)) := rfl
theorem pm_cc_35 : ∀ a, a < 35 → pm_cP a := lt_s pm_cc_34 pm_c_34
set_option maxRecDepth 100000 in
theorem pm_c_35 : lw_tbl[292]? = some (Cond.code yX5_ofField cX5_ofField 3 (some .int)) := rfl
theorem pm_cc_36 : ∀ a, a < 36 → pm_cP a := lt_s pm_cc_35 pm_c_35
set_option maxRecDepth 100000 in
theorem pm_c_36 : lw_tbl[300]? = some (Cond.code yX5_ofPost cX5_ofPost 3 (some .int)) := rfl
theorem pm_cc_37 : ∀ a, a < 37 → pm_cP a := lt_s pm_cc_36 pm_c_36
set_option maxRecDepth 100000 in
theorem pm_c_37 : lw_tbl[308]? = some (Cond.code yX5_lets cX5_lets 3 (some .int)) := rfl
theorem pm_cc_38 : ∀ a, a < 38 → pm_cP a := lt_s pm_cc_37 pm_c_37
set_option maxRecDepth 100000 in
theorem pm_c_38 : lw_tbl[319]? = some (Cond.code yX5_limit cX5_limit 4 (some .int)) := rfl
theorem pm_cc_39 : ∀ a, a < 39 → pm_cP a := lt_s pm_cc_38 pm_c_38
set_option maxRecDepth 100000 in
theorem pm_c_39 : lw_tbl[324]? = some (Cond.code yX5_rain cX5_rain 4 (some .int)) := rfl
theorem pm_cc_40 : ∀ a, a < 40 → pm_cP a := lt_s pm_cc_39 pm_c_39
set_option maxRecDepth 100000 in
theorem pm_c_40 : lw_tbl[336]? = some (Cond.code yX5_wet cX5_wet 3 (some .int)) := rfl
theorem pm_cc_41 : ∀ a, a < 41 → pm_cP a := lt_s pm_cc_40 pm_c_40
set_option maxRecDepth 100000 in
theorem pm_c_41 : lw_tbl[344]? = some (Cond.code yX5_blow cX5_blow 5 (none)) := rfl
theorem pm_cc_42 : ∀ a, a < 42 → pm_cP a := lt_s pm_cc_41 pm_c_41
set_option maxRecDepth 100000 in
theorem pm_c_42 : lw_tbl[361]? = some (Cond.code yX5_isIn cX5_isIn 2 (some .boolean)) := rfl
theorem pm_cc_43 : ∀ a, a < 43 → pm_cP a := lt_s pm_cc_42 pm_c_42
set_option maxRecDepth 100000 in
theorem pm_c_43 : lw_tbl[371]? = some (Cond.code yX5_fell cX5_fell 3 (some .int)) := rfl
theorem pm_cc_44 : ∀ a, a < 44 → pm_cP a := lt_s pm_cc_43 pm_c_43
set_option maxRecDepth 100000 in
theorem pm_c_44 : lw_tbl[375]? = some (Cond.code yX5_flood cX5_flood 2 (some .int)) := rfl
theorem pm_cc_45 : ∀ a, a < 45 → pm_cP a := lt_s pm_cc_44 pm_c_44
set_option maxRecDepth 100000 in
theorem pm_c_45 : lw_tbl[379]? = some (Cond.code yX5_enough cX5_enough 1 (some .int)) := rfl
theorem pm_cc_46 : ∀ a, a < 46 → pm_cP a := lt_s pm_cc_45 pm_c_45
set_option maxRecDepth 100000 in
theorem pm_c_46 : lw_tbl[387]? = some (Cond.code yX5_plan cX5_plan 6 (some .int)) := rfl
theorem pm_cc_47 : ∀ a, a < 47 → pm_cP a := lt_s pm_cc_46 pm_c_46
set_option maxRecDepth 100000 in
theorem pm_c_47 : lw_tbl[390]? = some (Cond.code yX5_isAskedOfPlan cX5_isAskedOfPlan 1 (some .boolean)) := rfl
theorem pm_cc_48 : ∀ a, a < 48 → pm_cP a := lt_s pm_cc_47 pm_c_47
set_option maxRecDepth 100000 in
theorem pm_c_48 : lw_tbl[394]? = some (Cond.code yX5_areSetsOfPosts cX5_areSetsOfPosts 3 (some .boolean)) := rfl
theorem pm_cc_49 : ∀ a, a < 49 → pm_cP a := lt_s pm_cc_48 pm_c_48
set_option maxRecDepth 100000 in
theorem pm_c_49 : lw_tbl[402]? = some (Cond.code yX5_ofPlan cX5_ofPlan 3 (some .int)) := rfl
theorem pm_cc_50 : ∀ a, a < 50 → pm_cP a := lt_s pm_cc_49 pm_c_49
set_option maxRecDepth 100000 in
theorem pm_c_50 : lw_tbl[406]? = some (Cond.code yX5_ofPlanField cX5_ofPlanField 3 (some .int)) := rfl
theorem pm_cc_51 : ∀ a, a < 51 → pm_cP a := lt_s pm_cc_50 pm_c_50
set_option maxRecDepth 100000 in
theorem pm_c_51 : lw_tbl[410]? = some (Cond.code yX5_papers cX5_papers 3 (some .int)) := rfl
theorem pm_cc_52 : ∀ a, a < 52 → pm_cP a := lt_s pm_cc_51 pm_c_51
set_option maxRecDepth 100000 in
theorem pm_c_52 : lw_tbl[413]? = some (Cond.code yX5_isFewer cX5_isFewer 2 (some .boolean)) := rfl
theorem pm_cc_53 : ∀ a, a < 53 → pm_cP a := lt_s pm_cc_52 pm_c_52
set_option maxRecDepth 100000 in
theorem pm_c_53 : lw_tbl[423]? = some (Cond.code yX5_most cX5_most 5 (some .int)) := rfl
theorem pm_cc_54 : ∀ a, a < 54 → pm_cP a := lt_s pm_cc_53 pm_c_53
set_option maxRecDepth 100000 in
theorem pm_c_54 : lw_tbl[427]? = some (Cond.code yX5_shut cX5_shut 4 (some .int)) := rfl
theorem pm_cc_55 : ∀ a, a < 55 → pm_cP a := lt_s pm_cc_54 pm_c_54
set_option maxRecDepth 100000 in
theorem pm_c_55 : lw_tbl[432]? = some (Cond.code yX5_reading cX5_reading 4 (some .int)) := rfl
theorem pm_cc_56 : ∀ a, a < 56 → pm_cP a := lt_s pm_cc_55 pm_c_55
set_option maxRecDepth 100000 in
theorem pm_c_56 : lw_tbl[440]? = some (Cond.code yX5_back cX5_back 2 (some .int)) := rfl
theorem pm_cc_57 : ∀ a, a < 57 → pm_cP a := lt_s pm_cc_56 pm_c_56
set_option maxRecDepth 100000 in
theorem pm_c_57 : lw_tbl[444]? = some (Cond.code yX5_limits cX5_limits 2 (some .int)) := rfl
theorem pm_cc_58 : ∀ a, a < 58 → pm_cP a := lt_s pm_cc_57 pm_c_57
set_option maxRecDepth 100000 in
theorem pm_c_58 : lw_tbl[448]? = some (Cond.code yX5_fitting cX5_fitting 7 (some .int)) := rfl
theorem pm_cc_59 : ∀ a, a < 59 → pm_cP a := lt_s pm_cc_58 pm_c_58
set_option maxRecDepth 100000 in
theorem pm_c_59 : lw_tbl[452]? = some (Cond.code yX5_areReadingsSo cX5_areReadingsSo 3 (some .boolean)) := rfl
theorem pm_cc_60 : ∀ a, a < 60 → pm_cP a := lt_s pm_cc_59 pm_c_59
set_option maxRecDepth 100000 in
theorem pm_c_60 : lw_tbl[460]? = some (Cond.code yX5_kinds cX5_kinds 2 (some .int)) := rfl
theorem pm_cc_61 : ∀ a, a < 61 → pm_cP a := lt_s pm_cc_60 pm_c_60
set_option maxRecDepth 100000 in
theorem pm_c_61 : lw_tbl[464]? = some (Cond.code yX5_rains cX5_rains 2 (some .int)) := rfl
theorem pm_cc_62 : ∀ a, a < 62 → pm_cP a := lt_s pm_cc_61 pm_c_61
set_option maxRecDepth 100000 in
theorem pm_c_62 : lw_tbl[468]? = some (Cond.code yX5_odds cX5_odds 6 (some .long)) := rfl
theorem pm_cc_63 : ∀ a, a < 63 → pm_cP a := lt_s pm_cc_62 pm_c_62
set_option maxRecDepth 100000 in
theorem pm_c_63 : lw_tbl[473]? = some (Cond.code yX5_setsOfDaysThatFlood cX5_setsOfDaysThatFlood 5 (some .int)) := rfl
theorem pm_cc_64 : ∀ a, a < 64 → pm_cP a := lt_s pm_cc_63 pm_c_63
set_option maxRecDepth 100000 in
theorem pm_c_64 : lw_tbl[477]? = some (Cond.code yX5_sheet cX5_sheet 4 (some .int)) := rfl
theorem pm_cc_65 : ∀ a, a < 65 → pm_cP a := lt_s pm_cc_64 pm_c_64
set_option maxRecDepth 100000 in
theorem pm_c_65 : lw_tbl[485]? = some (Cond.code yX5_lose cX5_lose 3 (some .int)) := rfl
theorem pm_cc_66 : ∀ a, a < 66 → pm_cP a := lt_s pm_cc_65 pm_c_65
set_option maxRecDepth 100000 in
theorem pm_c_66 : lw_tbl[490]? = some (Cond.code yX5_put cX5_put 4 (some .int)) := rfl
theorem pm_cc_67 : ∀ a, a < 67 → pm_cP a := lt_s pm_cc_66 pm_c_66
set_option maxRecDepth 100000 in
theorem pm_c_67 : lw_tbl[502]? = some (Cond.code yX5_cell cX5_cell 4 (some .long)) := rfl
theorem pm_cc_68 : ∀ a, a < 68 → pm_cP a := lt_s pm_cc_67 pm_c_67
set_option maxRecDepth 100000 in
theorem pm_c_68 : lw_tbl[507]? = some (Cond.code yX5_copy cX5_copy 6 (some .int)) := rfl
theorem pm_cc_69 : ∀ a, a < 69 → pm_cP a := lt_s pm_cc_68 pm_c_68
set_option maxRecDepth 100000 in
theorem pm_c_69 : lw_tbl[513]? = some (Cond.code yX5_tell cX5_tell 2 (some .int)) := rfl
theorem pm_cc_70 : ∀ a, a < 70 → pm_cP a := lt_s pm_cc_69 pm_c_69
set_option maxRecDepth 100000 in
theorem pm_c_70 : lw_tbl[517]? = some (Cond.code yX5_tellAsFree cX5_tellAsFree 3 (some .int)) := rfl
theorem pm_cc_71 : ∀ a, a < 71 → pm_cP a := lt_s pm_cc_70 pm_c_70
set_option maxRecDepth 100000 in
theorem pm_c_71 : lw_tbl[521]? = some (Cond.code yX5_leave cX5_leave 2 (none)) := rfl
theorem pm_cc_72 : ∀ a, a < 72 → pm_cP a := lt_s pm_cc_71 pm_c_71
set_option maxRecDepth 100000 in
theorem pm_c_72 : lw_tbl[525]? = some (Cond.code yX5_tellAsCustoms cX5_tellAsCustoms 2 (some .int)) := rfl
theorem pm_cc_73 : ∀ a, a < 73 → pm_cP a := lt_s pm_cc_72 pm_c_72
set_option maxRecDepth 100000 in
theorem pm_c_73 : lw_tbl[529]? = some (Cond.code yX5_tellAsPost cX5_tellAsPost 2 (some .int)) := rfl
theorem pm_cc_74 : ∀ a, a < 74 → pm_cP a := lt_s pm_cc_73 pm_c_73
set_option maxRecDepth 100000 in
theorem pm_c_74 : lw_tbl[533]? = some (Cond.code yX5_stamp cX5_stamp 2 (some .int)) := rfl
theorem pm_cc_75 : ∀ a, a < 75 → pm_cP a := lt_s pm_cc_74 pm_c_74
set_option maxRecDepth 100000 in
theorem pm_c_75 : lw_tbl[537]? = some (Cond.code yX5_as cX5_as 3 (some .int)) := rfl
theorem pm_cc_76 : ∀ a, a < 76 → pm_cP a := lt_s pm_cc_75 pm_c_75
set_option maxRecDepth 100000 in
theorem pm_c_76 : lw_tbl[541]? = some (Cond.code yX5_trace cX5_trace 1 (some .int)) := rfl
theorem pm_cc_77 : ∀ a, a < 77 → pm_cP a := lt_s pm_cc_76 pm_c_76
set_option maxRecDepth 100000 in
theorem pm_c_77 : lw_tbl[545]? = some (Cond.code yX5_fault cX5_fault 1 (some .int)) := rfl
theorem pm_cc_78 : ∀ a, a < 78 → pm_cP a := lt_s pm_cc_77 pm_c_77
set_option maxRecDepth 100000 in
theorem pm_c_78 : lw_tbl[549]? = some (Cond.code yX5_many cX5_many 2 (some .int)) := rfl
theorem pm_cc_79 : ∀ a, a < 79 → pm_cP a := lt_s pm_cc_78 pm_c_78
set_option maxRecDepth 100000 in
theorem pm_c_79 : lw_tbl[650]? = some (Cond.code yX6_land cX6_land 7 (some .int)) := rfl
theorem pm_cc_80 : ∀ a, a < 80 → pm_cP a := lt_s pm_cc_79 pm_c_79
set_option maxRecDepth 100000 in
theorem pm_c_80 : lw_tbl[653]? = some (Cond.code yX6_isSheet cX6_isSheet 1 (some .boolean)) := rfl
theorem pm_cc_81 : ∀ a, a < 81 → pm_cP a := lt_s pm_cc_80 pm_c_80
set_option maxRecDepth 100000 in
theorem pm_c_81 : lw_tbl[656]? = some (Cond.code yX6_within cX6_within 3 (some .boolean)) := rfl
theorem pm_cc_82 : ∀ a, a < 82 → pm_cP a := lt_s pm_cc_81 pm_c_81
set_option maxRecDepth 100000 in
theorem pm_c_82 : lw_tbl[659]? = some (Cond.code yX6_isSort cX6_isSort 1 (some .boolean)) := rfl
theorem pm_cc_83 : ∀ a, a < 83 → pm_cP a := lt_s pm_cc_82 pm_c_82
set_option maxRecDepth 100000 in
theorem pm_c_83 : lw_tbl[663]? = some (Cond.code yX6_against cX6_against 5 (some .int)) := rfl
theorem pm_cc_84 : ∀ a, a < 84 → pm_cP a := lt_s pm_cc_83 pm_c_83
set_option maxRecDepth 100000 in
theorem pm_c_84 : lw_tbl[667]? = some (Cond.code yX6_fails cX6_fails 2 (some .int)) := rfl
theorem pm_cc_85 : ∀ a, a < 85 → pm_cP a := lt_s pm_cc_84 pm_c_84
set_option maxRecDepth 100000 in
theorem pm_c_85 : lw_tbl[671]? = some (Cond.code yX6_readLand cX6_readLand 3 (some .boolean)) := rfl
theorem pm_cc_86 : ∀ a, a < 86 → pm_cP a := lt_s pm_cc_85 pm_c_85
set_option maxRecDepth 100000 in
theorem pm_c_86 : lw_tbl[675]? = some (Cond.code yX6_isSign cX6_isSign 3 (some .boolean)) := rfl
theorem pm_cc_87 : ∀ a, a < 87 → pm_cP a := lt_s pm_cc_86 pm_c_86
set_option maxRecDepth 100000 in
theorem pm_c_87 : lw_tbl[679]? = some (Cond.code yX6_digit cX6_digit 4 (some .int)) := rfl
theorem pm_cc_88 : ∀ a, a < 88 → pm_cP a := lt_s pm_cc_87 pm_c_87
set_option maxRecDepth 100000 in
theorem pm_c_88 : lw_tbl[683]? = some (Cond.code yX6_readField cX6_readField 3 (some .boolean)) := rfl
theorem pm_cc_89 : ∀ a, a < 89 → pm_cP a := lt_s pm_cc_88 pm_c_88
set_option maxRecDepth 100000 in
theorem pm_c_89 : lw_tbl[687]? = some (Cond.code yX6_readPost cX6_readPost 4 (some .boolean)) := rfl
theorem pm_cc_90 : ∀ a, a < 90 → pm_cP a := lt_s pm_cc_89 pm_c_89
set_option maxRecDepth 100000 in
theorem pm_c_90 : lw_tbl[691]? = some (Cond.code yX6_readTheDays cX6_readTheDays 3 (some .boolean)) := rfl
theorem pm_cc_91 : ∀ a, a < 91 → pm_cP a := lt_s pm_cc_90 pm_c_90
set_option maxRecDepth 100000 in
theorem pm_c_91 : lw_tbl[695]? = some (Cond.code yX6_takeLand cX6_takeLand 2 (none)) := rfl
theorem pm_cc_92 : ∀ a, a < 92 → pm_cP a := lt_s pm_cc_91 pm_c_91
set_option maxRecDepth 100000 in
theorem pm_c_92 : lw_tbl[699]? = some (Cond.code yX6_ofField cX6_ofField 3 (some .int)) := rfl
theorem pm_cc_93 : ∀ a, a < 93 → pm_cP a := lt_s pm_cc_92 pm_c_92
set_option maxRecDepth 100000 in
theorem pm_c_93 : lw_tbl[703]? = some (Cond.code yX6_isField cX6_isField 2 (some .boolean)) := rfl
theorem pm_cc_94 : ∀ a, a < 94 → pm_cP a := lt_s pm_cc_93 pm_c_93
set_option maxRecDepth 100000 in
theorem pm_c_94 : lw_tbl[707]? = some (Cond.code yX6_ofPost cX6_ofPost 3 (some .int)) := rfl
theorem pm_cc_95 : ∀ a, a < 95 → pm_cP a := lt_s pm_cc_94 pm_c_94
set_option maxRecDepth 100000 in
theorem pm_c_95 : lw_tbl[711]? = some (Cond.code yX6_isPost cX6_isPost 2 (some .boolean)) := rfl
theorem pm_cc_96 : ∀ a, a < 96 → pm_cP a := lt_s pm_cc_95 pm_c_95
set_option maxRecDepth 100000 in
theorem pm_c_96 : lw_tbl[715]? = some (Cond.code yX6_lets cX6_lets 3 (some .int)) := rfl
theorem pm_cc_97 : ∀ a, a < 97 → pm_cP a := lt_s pm_cc_96 pm_c_96
set_option maxRecDepth 100000 in
theorem pm_c_97 : lw_tbl[719]? = some (Cond.code yX6_letsBy cX6_letsBy 4 (some .int)) := rfl
theorem pm_cc_98 : ∀ a, a < 98 → pm_cP a := lt_s pm_cc_97 pm_c_97
set_option maxRecDepth 100000 in
theorem pm_c_98 : lw_tbl[723]? = some (Cond.code yX6_limit cX6_limit 4 (some .int)) := rfl
theorem pm_cc_99 : ∀ a, a < 99 → pm_cP a := lt_s pm_cc_98 pm_c_98
set_option maxRecDepth 100000 in
theorem pm_c_99 : lw_tbl[727]? = some (Cond.code yX6_rain cX6_rain 4 (some .int)) := rfl
theorem pm_cc_100 : ∀ a, a < 100 → pm_cP a := lt_s pm_cc_99 pm_c_99
set_option maxRecDepth 100000 in
theorem pm_c_100 : lw_tbl[731]? = some (Cond.code yX6_isDay cX6_isDay 2 (some .boolean)) := rfl
theorem pm_cc_101 : ∀ a, a < 101 → pm_cP a := lt_s pm_cc_100 pm_c_100
set_option maxRecDepth 100000 in
theorem pm_c_101 : lw_tbl[735]? = some (Cond.code yX6_wet cX6_wet 3 (some .int)) := rfl
theorem pm_cc_102 : ∀ a, a < 102 → pm_cP a := lt_s pm_cc_101 pm_c_101
set_option maxRecDepth 100000 in
theorem pm_c_102 : lw_tbl[739]? = some (Cond.code yX6_goDays cX6_goDays 4 (none)) := rfl
theorem pm_cc_103 : ∀ a, a < 103 → pm_cP a := lt_s pm_cc_102 pm_c_102
set_option maxRecDepth 100000 in
theorem pm_c_103 : lw_tbl[743]? = some (Cond.code yX6_begin cX6_begin 2 (none)) := rfl
theorem pm_cc_104 : ∀ a, a < 104 → pm_cP a := lt_s pm_cc_103 pm_c_103
set_option maxRecDepth 100000 in
theorem pm_c_104 : lw_tbl[747]? = some (Cond.code yX6_goDay cX6_goDay 7 (none)) := rfl
theorem pm_cc_105 : ∀ a, a < 105 → pm_cP a := lt_s pm_cc_104 pm_c_104
set_option maxRecDepth 100000 in
theorem pm_c_105 : lw_tbl[751]? = some (Cond.code yX6_goesOn cX6_goesOn 4 (some .int)) := rfl
theorem pm_cc_106 : ∀ a, a < 106 → pm_cP a := lt_s pm_cc_105 pm_c_105
set_option maxRecDepth 100000 in
theorem pm_c_106 : lw_tbl[755]? = some (Cond.code yX6_falls cX6_falls 4 (none)) := rfl
theorem pm_cc_107 : ∀ a, a < 107 → pm_cP a := lt_s pm_cc_106 pm_c_106
set_option maxRecDepth 100000 in
theorem pm_c_107 : lw_tbl[759]? = some (Cond.code yX6_fell cX6_fell 3 (some .int)) := rfl
theorem pm_cc_108 : ∀ a, a < 108 → pm_cP a := lt_s pm_cc_107 pm_c_107
set_option maxRecDepth 100000 in
theorem pm_c_108 : lw_tbl[763]? = some (Cond.code yX6_flood cX6_flood 2 (some .int)) := rfl
theorem pm_cc_109 : ∀ a, a < 109 → pm_cP a := lt_s pm_cc_108 pm_c_108
set_option maxRecDepth 100000 in
theorem pm_c_109 : lw_tbl[767]? = some (Cond.code yX6_enough cX6_enough 1 (some .int)) := rfl
theorem pm_cc_110 : ∀ a, a < 110 → pm_cP a := lt_s pm_cc_109 pm_c_109
set_option maxRecDepth 100000 in
theorem pm_c_110 : lw_tbl[771]? = some (Cond.code yX6_enoughSet cX6_enoughSet 3 (some .int)) := rfl
theorem pm_cc_111 : ∀ a, a < 111 → pm_cP a := lt_s pm_cc_110 pm_c_110
set_option maxRecDepth 100000 in
theorem pm_c_111 : lw_tbl[775]? = some (Cond.code yX6_plan cX6_plan 9 (some .int)) := rfl
theorem pm_cc_112 : ∀ a, a < 112 → pm_cP a := lt_s pm_cc_111 pm_c_111
set_option maxRecDepth 100000 in
theorem pm_c_112 : lw_tbl[779]? = some (Cond.code yX6_posts cX6_posts 1 (some .int)) := rfl
theorem pm_cc_113 : ∀ a, a < 113 → pm_cP a := lt_s pm_cc_112 pm_c_112
set_option maxRecDepth 100000 in
theorem pm_c_113 : lw_tbl[783]? = some (Cond.code yX6_tellPlan cX6_tellPlan 3 (some .int)) := rfl
theorem pm_cc_114 : ∀ a, a < 114 → pm_cP a := lt_s pm_cc_113 pm_c_113
set_option maxRecDepth 100000 in
theorem pm_c_114 : lw_tbl[787]? = some (Cond.code yX6_papers cX6_papers 3 (some .int)) := rfl
theorem pm_cc_115 : ∀ a, a < 115 → pm_cP a := lt_s pm_cc_114 pm_c_114
set_option maxRecDepth 100000 in
theorem pm_c_115 : lw_tbl[790]? = some (Cond.code yX6_size cX6_size 3 (some .int)) := rfl
theorem pm_cc_116 : ∀ a, a < 116 → pm_cP a := lt_s pm_cc_115 pm_c_115
set_option maxRecDepth 100000 in
theorem pm_c_116 : lw_tbl[794]? = some (Cond.code yX6_most cX6_most 5 (some .int)) := rfl
theorem pm_cc_117 : ∀ a, a < 117 → pm_cP a := lt_s pm_cc_116 pm_c_116
set_option maxRecDepth 100000 in
theorem pm_c_117 : lw_tbl[798]? = some (Cond.code yX6_shut cX6_shut 4 (some .int)) := rfl
theorem pm_cc_118 : ∀ a, a < 118 → pm_cP a := lt_s pm_cc_117 pm_c_117
set_option maxRecDepth 100000 in
theorem pm_c_118 : lw_tbl[802]? = some (Cond.code yX6_doesFlood cX6_doesFlood 4 (some .boolean)) := rfl
theorem pm_cc_119 : ∀ a, a < 119 → pm_cP a := lt_s pm_cc_118 pm_c_118
set_option maxRecDepth 100000 in
theorem pm_c_119 : lw_tbl[806]? = some (Cond.code yX6_reading cX6_reading 4 (some .int)) := rfl
theorem pm_cc_120 : ∀ a, a < 120 → pm_cP a := lt_s pm_cc_119 pm_c_119
set_option maxRecDepth 100000 in
theorem pm_c_120 : lw_tbl[810]? = some (Cond.code yX6_back cX6_back 2 (some .int)) := rfl
theorem pm_cc_121 : ∀ a, a < 121 → pm_cP a := lt_s pm_cc_120 pm_c_120
set_option maxRecDepth 100000 in
theorem pm_c_121 : lw_tbl[814]? = some (Cond.code yX6_limits cX6_limits 5 (some .int)) := rfl
theorem pm_cc_122 : ∀ a, a < 122 → pm_cP a := lt_s pm_cc_121 pm_c_121
set_option maxRecDepth 100000 in
theorem pm_c_122 : lw_tbl[818]? = some (Cond.code yX6_areSo cX6_areSo 3 (some .boolean)) := rfl
theorem pm_cc_123 : ∀ a, a < 123 → pm_cP a := lt_s pm_cc_122 pm_c_122
set_option maxRecDepth 100000 in
theorem pm_c_123 : lw_tbl[822]? = some (Cond.code yX6_areSoBehind cX6_areSoBehind 3 (some .boolean)) := rfl
theorem pm_cc_124 : ∀ a, a < 124 → pm_cP a := lt_s pm_cc_123 pm_c_123
set_option maxRecDepth 100000 in
theorem pm_c_124 : lw_tbl[826]? = some (Cond.code yX6_kinds cX6_kinds 5 (some .int)) := rfl
theorem pm_cc_125 : ∀ a, a < 125 → pm_cP a := lt_s pm_cc_124 pm_c_124
set_option maxRecDepth 100000 in
theorem pm_c_125 : lw_tbl[830]? = some (Cond.code yX6_rains cX6_rains 5 (some .int)) := rfl
theorem pm_cc_126 : ∀ a, a < 126 → pm_cP a := lt_s pm_cc_125 pm_c_125
set_option maxRecDepth 100000 in
theorem pm_c_126 : lw_tbl[834]? = some (Cond.code yX6_odds cX6_odds 5 (some .long)) := rfl
theorem pm_cc_127 : ∀ a, a < 127 → pm_cP a := lt_s pm_cc_126 pm_c_126
set_option maxRecDepth 100000 in
theorem pm_c_127 : lw_tbl[838]? = some (Cond.code yX6_inLeastTerms cX6_inLeastTerms 11 (some .long)) := rfl
theorem pm_cc_128 : ∀ a, a < 128 → pm_cP a := lt_s pm_cc_127 pm_c_127
set_option maxRecDepth 100000 in
theorem pm_c_128 : lw_tbl[842]? = some (Cond.code yX6_sheet cX6_sheet 5 (some .int)) := rfl
theorem pm_cc_129 : ∀ a, a < 129 → pm_cP a := lt_s pm_cc_128 pm_c_128
set_option maxRecDepth 100000 in
theorem pm_c_129 : lw_tbl[846]? = some (Cond.code yX6_lose cX6_lose 3 (some .int)) := rfl
theorem pm_cc_130 : ∀ a, a < 130 → pm_cP a := lt_s pm_cc_129 pm_c_129
set_option maxRecDepth 100000 in
theorem pm_c_130 : lw_tbl[850]? = some (Cond.code yX6_put cX6_put 4 (some .int)) := rfl
theorem pm_cc_131 : ∀ a, a < 131 → pm_cP a := lt_s pm_cc_130 pm_c_130
set_option maxRecDepth 100000 in
theorem pm_c_131 : lw_tbl[854]? = some (Cond.code yX6_cell cX6_cell 4 (some .long)) := rfl
theorem pm_cc_132 : ∀ a, a < 132 → pm_cP a := lt_s pm_cc_131 pm_c_131
set_option maxRecDepth 100000 in
theorem pm_c_132 : lw_tbl[858]? = some (Cond.code yX6_lost cX6_lost 2 (some .long)) := rfl
theorem pm_cc_133 : ∀ a, a < 133 → pm_cP a := lt_s pm_cc_132 pm_c_132
set_option maxRecDepth 100000 in
theorem pm_c_133 : lw_tbl[862]? = some (Cond.code yX6_copy cX6_copy 10 (some .int)) := rfl
theorem pm_cc_134 : ∀ a, a < 134 → pm_cP a := lt_s pm_cc_133 pm_c_133
set_option maxRecDepth 100000 in
theorem pm_c_134 : lw_tbl[866]? = some (Cond.code yX6_tell cX6_tell 3 (some .int)) := rfl
theorem pm_cc_135 : ∀ a, a < 135 → pm_cP a := lt_s pm_cc_134 pm_c_134
set_option maxRecDepth 100000 in
theorem pm_c_135 : lw_tbl[870]? = some (Cond.code yX6_begins cX6_begins 2 (none)) := rfl
theorem pm_cc_136 : ∀ a, a < 136 → pm_cP a := lt_s pm_cc_135 pm_c_135
set_option maxRecDepth 100000 in
theorem pm_c_136 : lw_tbl[874]? = some (Cond.code yX6_stamp cX6_stamp 2 (some .int)) := rfl
theorem pm_cc_137 : ∀ a, a < 137 → pm_cP a := lt_s pm_cc_136 pm_c_136
set_option maxRecDepth 100000 in
theorem pm_c_137 : lw_tbl[878]? = some (Cond.code yX6_as cX6_as 3 (some .int)) := rfl
theorem pm_cc_138 : ∀ a, a < 138 → pm_cP a := lt_s pm_cc_137 pm_c_137
set_option maxRecDepth 100000 in
theorem pm_c_138 : lw_tbl[882]? = some (Cond.code yX6_trace cX6_trace 1 (some .int)) := rfl
theorem pm_cc_139 : ∀ a, a < 139 → pm_cP a := lt_s pm_cc_138 pm_c_138
set_option maxRecDepth 100000 in
theorem pm_c_139 : lw_tbl[886]? = some (Cond.code yX6_fault cX6_fault 1 (some .int)) := rfl
theorem pm_cc_140 : ∀ a, a < 140 → pm_cP a := lt_s pm_cc_139 pm_c_139
set_option maxRecDepth 100000 in
theorem pm_c_140 : lw_tbl[890]? = some (Cond.code yX6_many cX6_many 2 (some .int)) := rfl
theorem pm_cc_141 : ∀ a, a < 141 → pm_cP a := lt_s pm_cc_140 pm_c_140
set_option maxRecDepth 100000 in
theorem pm_c_141 : lw_tbl[416]? = some (Cond.code yJ6_bitCount_0f7a4 cJ6_bitCount_0f7a4 1 (some .int)) := rfl
theorem pm_cc_142 : ∀ a, a < 142 → pm_cP a := lt_s pm_cc_141 pm_c_141
set_option maxRecDepth 100000 in
theorem pm_c_142 : lw_tbl[91]? = some (Cond.code yJ7_fill_53178 cJ7_fill_53178 4 (none)) := rfl
theorem pm_cc_143 : ∀ a, a < 143 → pm_cP a := lt_s pm_cc_142 pm_c_142
theorem pm_ck1 : (List.range 143).all (fun y => decide (lw_tbl[pm_ji.getD y 0]? = some (Cond.initialized (pm_nm y).cls))) = true := by decide +kernel
theorem pm_ck2 : (List.range 143).all (fun y => (if pm_stat.contains y then decide (lw_tbl[pm_jm.getD y 0]? = some (Cond.static (pm_nm y))) else decide (lw_tbl[pm_jm.getD y 0]? = some (Cond.instanceMethod (pm_nm y))))) = true := by decide +kernel
theorem pm_ck3 : (List.range 143).all (fun y => pm_stat.contains y || decide (lw_tbl[pm_js.getD y 0]? = some (Cond.selects (pm_nm y).cls (pm_nm y) (pm_nm y)))) = true := by decide +kernel
theorem pm_ck4 : (List.range 143).all (fun y => decide ((pm_nm y).cls ≠ "java/lang/invoke/MethodHandle") && decide ((pm_nm y).cls ≠ "java/lang/invoke/VarHandle") && decide (pm_ml y ≤ 20)) = true := by decide +kernel
theorem pm_ck5 : (List.range 143).all (fun y => plainName (pm_nm y).cls) = true := by decide +kernel
theorem pm_okm_ok : pm_okm := by
  intro y hy
  have hm := List.mem_range.mpr hy
  have h0 := pm_cc_143 y hy
  have a1 := List.all_eq_true.mp pm_ck1 y hm
  have a2 := List.all_eq_true.mp pm_ck2 y hm
  have a3 := List.all_eq_true.mp pm_ck3 y hm
  have a4 := List.all_eq_true.mp pm_ck4 y hm
  have a5 := List.all_eq_true.mp pm_ck5 y hm
  simp only [Bool.and_eq_true, decide_eq_true_eq] at a1 a4
  refine ⟨pm_gw_of (List.mem_of_getElem? h0) rfl, pm_gw_of (List.mem_of_getElem? a1) rfl, fun hs => ?_, fun hs => ?_, a4.1, a5, a4.2⟩
  · rw [if_pos hs] at a2
    simp only [decide_eq_true_eq] at a2
    exact pm_gw_of (List.mem_of_getElem? a2) rfl
  · rw [if_neg (by rw [hs]; exact fun h => by cases h)] at a2
    rw [hs] at a3
    simp only [Bool.false_or, decide_eq_true_eq] at a2 a3
    exact ⟨pm_gw_of (List.mem_of_getElem? a2) rfl, pm_gw_of (List.mem_of_getElem? a3) rfl⟩
theorem pm_mt : (Cond.static Lib.Math.max.name) ∈ pm_gw ∧ (Cond.initialized "java/lang/Math") ∈ pm_gw ∧ (Cond.code Lib.Math.max.name Lib.Math.max.code 2 (some .int)) ∈ pm_gw ∧ (Cond.static Lib.Math.min.name) ∈ pm_gw ∧ (Cond.code Lib.Math.min.name Lib.Math.min.code 2 (some .int)) ∈ pm_gw := ⟨pm_gw_of (List.mem_of_getElem? (i := 283) (by decide +kernel)) rfl, pm_gw_of (List.mem_of_getElem? (i := 71) (by decide +kernel)) rfl, pm_gw_of (List.mem_of_getElem? (i := 284) (by decide +kernel)) rfl, pm_gw_of (List.mem_of_getElem? (i := 314) (by decide +kernel)) rfl, pm_gw_of (List.mem_of_getElem? (i := 315) (by decide +kernel)) rfl⟩
theorem pm_ac1 : Cond.native arraycopyName ∈ pm_gw := pm_gw_of (List.mem_of_getElem? (i := 248) (by decide +kernel)) rfl
theorem pm_ac2 : Cond.static arraycopyName ∈ pm_gw := pm_gw_of (List.mem_of_getElem? (i := 247) (by decide +kernel)) rfl
theorem pm_ac3 : Cond.initialized "java/lang/System" ∈ pm_gw := pm_gw_of (List.mem_of_getElem? (i := 69) (by decide +kernel)) rfl
theorem pm_kw_0 : (u_ws RX0 TX0 7).all (fun w => decide (w ∈ lw_tbl) && goodWord w) = true := by decide +kernel
theorem pm_kw_1 : (u_ws RX1 TX1 4).all (fun w => decide (w ∈ lw_tbl) && goodWord w) = true := by decide +kernel
theorem pm_kw_2 : (u_ws RX2 TX2 3).all (fun w => decide (w ∈ lw_tbl) && goodWord w) = true := by decide +kernel
theorem pm_kw_3 : (u_ws RX4 TX4 6).all (fun w => decide (w ∈ lw_tbl) && goodWord w) = true := by decide +kernel
theorem pm_kw_4 : (u_ws RX5 TX5 7).all (fun w => decide (w ∈ lw_tbl) && goodWord w) = true := by decide +kernel
theorem pm_kw_5 : (u_ws RX6 TX6 30).all (fun w => decide (w ∈ lw_tbl) && goodWord w) = true := by decide +kernel
theorem pm_kw {C : String} {T : u_T} {N : Nat} (h : (u_ws C T N).all (fun w => decide (w ∈ lw_tbl) && goodWord w) = true) : ∀ w ∈ u_ws C T N, w ∈ pm_gw := by
  intro w hw
  have h1 := List.all_eq_true.mp h w hw
  simp only [Bool.and_eq_true, decide_eq_true_eq] at h1
  exact pm_gw_of h1.1 h1.2
theorem pm_okc_ok : pm_okc := by
  intro ci C T N h
  match ci, h with
  | 0, h => cases h; exact ⟨pm_kw pm_kw_0, ⟨tyX0, tyX0_ok⟩, nmX0⟩
  | 1, h => cases h; exact ⟨pm_kw pm_kw_1, ⟨tyX1, tyX1_ok⟩, nmX1⟩
  | 2, h => cases h; exact ⟨pm_kw pm_kw_2, ⟨tyX2, tyX2_ok⟩, nmX2⟩
  | 3, h => cases h; exact ⟨pm_kw pm_kw_3, ⟨tyX4, tyX4_ok⟩, nmX4⟩
  | 4, h => cases h; exact ⟨pm_kw pm_kw_4, ⟨tyX5, tyX5_ok⟩, nmX5⟩
  | 5, h => cases h; exact ⟨pm_kw pm_kw_5, ⟨tyX6, tyX6_ok⟩, nmX6⟩
  | ci + 6, h => simp [pm_cls] at h
