section
-- ===== PART A: goes FIRST, ahead of the names: the tables' words, and 'selects' of the private methods out of them =====
/-- a private method of a class that the tables say can be made, by its rows of tables_1 -/
def lw_okq (q : MethodName × Nat) : Prop := (q.1.cls ≠ "java/lang/invoke/MethodHandle" ∧ q.1.cls ≠ "java/lang/invoke/VarHandle") ∧ Cond.instantiable q.1.cls q.2 ∈ tables_1 ∧ Cond.privateMethod q.1 ∈ tables_1 ∧ Cond.instanceMethod q.1 ∈ tables_1
theorem lw_p0 : lw_okq (⟨"WeatherPass$Sheets", "faultOfCells", "(IIII)I"⟩, 3) := ⟨⟨by decide +kernel, by decide +kernel⟩, List.mem_of_getElem? (i := 21) (by decide +kernel), List.mem_of_getElem? (i := 166) (by decide +kernel), List.mem_of_getElem? (i := 167) (by decide +kernel)⟩
theorem lw_p1 : lw_okq (⟨"WeatherPass$Sheets", "faultOfLane", "(II)I"⟩, 3) := ⟨⟨by decide +kernel, by decide +kernel⟩, List.mem_of_getElem? (i := 21) (by decide +kernel), List.mem_of_getElem? (i := 170) (by decide +kernel), List.mem_of_getElem? (i := 171) (by decide +kernel)⟩
theorem lw_p2 : lw_okq (⟨"WeatherPass$Sheets", "isNothing", "(I)Z"⟩, 3) := ⟨⟨by decide +kernel, by decide +kernel⟩, List.mem_of_getElem? (i := 21) (by decide +kernel), List.mem_of_getElem? (i := 174) (by decide +kernel), List.mem_of_getElem? (i := 175) (by decide +kernel)⟩
theorem lw_p3 : lw_okq (⟨"WeatherPass$Sheets", "hasCells", "(III)Z"⟩, 3) := ⟨⟨by decide +kernel, by decide +kernel⟩, List.mem_of_getElem? (i := 21) (by decide +kernel), List.mem_of_getElem? (i := 178) (by decide +kernel), List.mem_of_getElem? (i := 179) (by decide +kernel)⟩
theorem lw_p4 : lw_okq (⟨"WeatherPass$Sheets", "read", "(III[I)V"⟩, 3) := ⟨⟨by decide +kernel, by decide +kernel⟩, List.mem_of_getElem? (i := 21) (by decide +kernel), List.mem_of_getElem? (i := 182) (by decide +kernel), List.mem_of_getElem? (i := 183) (by decide +kernel)⟩
theorem lw_p5 : lw_okq (⟨"WeatherPass$Land", "become", "([II)V"⟩, 7) := ⟨⟨by decide +kernel, by decide +kernel⟩, List.mem_of_getElem? (i := 45) (by decide +kernel), List.mem_of_getElem? (i := 213) (by decide +kernel), List.mem_of_getElem? (i := 214) (by decide +kernel)⟩
theorem lw_p6 : lw_okq (⟨"WeatherPass$Land", "posts", "()I"⟩, 7) := ⟨⟨by decide +kernel, by decide +kernel⟩, List.mem_of_getElem? (i := 45) (by decide +kernel), List.mem_of_getElem? (i := 218) (by decide +kernel), List.mem_of_getElem? (i := 219) (by decide +kernel)⟩
theorem lw_p7 : lw_okq (⟨"WeatherPass$Land", "hasField", "(I)Z"⟩, 7) := ⟨⟨by decide +kernel, by decide +kernel⟩, List.mem_of_getElem? (i := 45) (by decide +kernel), List.mem_of_getElem? (i := 233) (by decide +kernel), List.mem_of_getElem? (i := 234) (by decide +kernel)⟩
theorem lw_p8 : lw_okq (⟨"WeatherPass$Land", "hasPost", "(I)Z"⟩, 7) := ⟨⟨by decide +kernel, by decide +kernel⟩, List.mem_of_getElem? (i := 45) (by decide +kernel), List.mem_of_getElem? (i := 241) (by decide +kernel), List.mem_of_getElem? (i := 242) (by decide +kernel)⟩
theorem lw_p9 : lw_okq (⟨"WeatherPass$Land", "letBy", "(II)I"⟩, 7) := ⟨⟨by decide +kernel, by decide +kernel⟩, List.mem_of_getElem? (i := 45) (by decide +kernel), List.mem_of_getElem? (i := 249) (by decide +kernel), List.mem_of_getElem? (i := 250) (by decide +kernel)⟩
theorem lw_p10 : lw_okq (⟨"WeatherPass$Land", "exists", "()Z"⟩, 7) := ⟨⟨by decide +kernel, by decide +kernel⟩, List.mem_of_getElem? (i := 45) (by decide +kernel), List.mem_of_getElem? (i := 265) (by decide +kernel), List.mem_of_getElem? (i := 266) (by decide +kernel)⟩
theorem lw_p11 : lw_okq (⟨"WeatherPass$Land", "hasDay", "(I)Z"⟩, 7) := ⟨⟨by decide +kernel, by decide +kernel⟩, List.mem_of_getElem? (i := 45) (by decide +kernel), List.mem_of_getElem? (i := 269) (by decide +kernel), List.mem_of_getElem? (i := 270) (by decide +kernel)⟩
theorem lw_p12 : lw_okq (⟨"WeatherPass$Land", "hasBehind", "(I)Z"⟩, 7) := ⟨⟨by decide +kernel, by decide +kernel⟩, List.mem_of_getElem? (i := 45) (by decide +kernel), List.mem_of_getElem? (i := 277) (by decide +kernel), List.mem_of_getElem? (i := 278) (by decide +kernel)⟩
theorem lw_p13 : lw_okq (⟨"WeatherPass", "blow", "(III)V"⟩, 7) := ⟨⟨by decide +kernel, by decide +kernel⟩, List.mem_of_getElem? (i := 13) (by decide +kernel), List.mem_of_getElem? (i := 281) (by decide +kernel), List.mem_of_getElem? (i := 282) (by decide +kernel)⟩
theorem lw_p14 : lw_okq (⟨"WeatherPass$Weather", "begin", "()V"⟩, 6) := ⟨⟨by decide +kernel, by decide +kernel⟩, List.mem_of_getElem? (i := 83) (by decide +kernel), List.mem_of_getElem? (i := 285) (by decide +kernel), List.mem_of_getElem? (i := 286) (by decide +kernel)⟩
theorem lw_p15 : lw_okq (⟨"WeatherPass$Weather", "pass", "(LWeatherPass$Land;IIII)V"⟩, 6) := ⟨⟨by decide +kernel, by decide +kernel⟩, List.mem_of_getElem? (i := 83) (by decide +kernel), List.mem_of_getElem? (i := 290) (by decide +kernel), List.mem_of_getElem? (i := 291) (by decide +kernel)⟩
def lw_privs_1 : List (MethodName × Nat) := [(⟨"WeatherPass$Sheets", "faultOfCells", "(IIII)I"⟩, 3), (⟨"WeatherPass$Sheets", "faultOfLane", "(II)I"⟩, 3), (⟨"WeatherPass$Sheets", "isNothing", "(I)Z"⟩, 3), (⟨"WeatherPass$Sheets", "hasCells", "(III)Z"⟩, 3), (⟨"WeatherPass$Sheets", "read", "(III[I)V"⟩, 3), (⟨"WeatherPass$Land", "become", "([II)V"⟩, 7), (⟨"WeatherPass$Land", "posts", "()I"⟩, 7), (⟨"WeatherPass$Land", "hasField", "(I)Z"⟩, 7), (⟨"WeatherPass$Land", "hasPost", "(I)Z"⟩, 7), (⟨"WeatherPass$Land", "letBy", "(II)I"⟩, 7), (⟨"WeatherPass$Land", "exists", "()Z"⟩, 7), (⟨"WeatherPass$Land", "hasDay", "(I)Z"⟩, 7), (⟨"WeatherPass$Land", "hasBehind", "(I)Z"⟩, 7), (⟨"WeatherPass", "blow", "(III)V"⟩, 7), (⟨"WeatherPass$Weather", "begin", "()V"⟩, 6), (⟨"WeatherPass$Weather", "pass", "(LWeatherPass$Land;IIII)V"⟩, 6)]
theorem lw_r1 : ∀ q ∈ lw_privs_1, lw_okq q := List.forall_mem_cons.mpr ⟨lw_p0, List.forall_mem_cons.mpr ⟨lw_p1, List.forall_mem_cons.mpr ⟨lw_p2, List.forall_mem_cons.mpr ⟨lw_p3, List.forall_mem_cons.mpr ⟨lw_p4, List.forall_mem_cons.mpr ⟨lw_p5, List.forall_mem_cons.mpr ⟨lw_p6, List.forall_mem_cons.mpr ⟨lw_p7, List.forall_mem_cons.mpr ⟨lw_p8, List.forall_mem_cons.mpr ⟨lw_p9, List.forall_mem_cons.mpr ⟨lw_p10, List.forall_mem_cons.mpr ⟨lw_p11, List.forall_mem_cons.mpr ⟨lw_p12, List.forall_mem_cons.mpr ⟨lw_p13, List.forall_mem_cons.mpr ⟨lw_p14, List.forall_mem_cons.mpr ⟨lw_p15, fun _ h => absurd h List.not_mem_nil⟩⟩⟩⟩⟩⟩⟩⟩⟩⟩⟩⟩⟩⟩⟩⟩
theorem lw_p16 : lw_okq (⟨"WeatherPass$Land", "goesOn", "(IIII)I"⟩, 7) := ⟨⟨by decide +kernel, by decide +kernel⟩, List.mem_of_getElem? (i := 45) (by decide +kernel), List.mem_of_getElem? (i := 294) (by decide +kernel), List.mem_of_getElem? (i := 295) (by decide +kernel)⟩
theorem lw_p17 : lw_okq (⟨"WeatherPass$Weather", "floodOn", "(II)V"⟩, 6) := ⟨⟨by decide +kernel, by decide +kernel⟩, List.mem_of_getElem? (i := 83) (by decide +kernel), List.mem_of_getElem? (i := 304) (by decide +kernel), List.mem_of_getElem? (i := 305) (by decide +kernel)⟩
theorem lw_p18 : lw_okq (⟨"WeatherPass$Weather", "contented", "(LWeatherPass$Land;)I"⟩, 6) := ⟨⟨by decide +kernel, by decide +kernel⟩, List.mem_of_getElem? (i := 83) (by decide +kernel), List.mem_of_getElem? (i := 320) (by decide +kernel), List.mem_of_getElem? (i := 321) (by decide +kernel)⟩
theorem lw_p19 : lw_okq (⟨"WeatherPass", "areSetsOfPosts", "(I)Z"⟩, 7) := ⟨⟨by decide +kernel, by decide +kernel⟩, List.mem_of_getElem? (i := 13) (by decide +kernel), List.mem_of_getElem? (i := 331) (by decide +kernel), List.mem_of_getElem? (i := 332) (by decide +kernel)⟩
theorem lw_p20 : lw_okq (⟨"WeatherPass$Land", "setsOfPosts", "()I"⟩, 7) := ⟨⟨by decide +kernel, by decide +kernel⟩, List.mem_of_getElem? (i := 45) (by decide +kernel), List.mem_of_getElem? (i := 335) (by decide +kernel), List.mem_of_getElem? (i := 336) (by decide +kernel)⟩
theorem lw_p21 : lw_okq (⟨"WeatherPass", "ofPlan", "(I)I"⟩, 7) := ⟨⟨by decide +kernel, by decide +kernel⟩, List.mem_of_getElem? (i := 13) (by decide +kernel), List.mem_of_getElem? (i := 339) (by decide +kernel), List.mem_of_getElem? (i := 340) (by decide +kernel)⟩
theorem lw_p22 : lw_okq (⟨"WeatherPass", "ofPlanField", "([II)I"⟩, 7) := ⟨⟨by decide +kernel, by decide +kernel⟩, List.mem_of_getElem? (i := 13) (by decide +kernel), List.mem_of_getElem? (i := 343) (by decide +kernel), List.mem_of_getElem? (i := 344) (by decide +kernel)⟩
theorem lw_p23 : lw_okq (⟨"WeatherPass$Readings", "keep", "(III)I"⟩, 4) := ⟨⟨by decide +kernel, by decide +kernel⟩, List.mem_of_getElem? (i := 114) (by decide +kernel), List.mem_of_getElem? (i := 373) (by decide +kernel), List.mem_of_getElem? (i := 374) (by decide +kernel)⟩
theorem lw_p24 : lw_okq (⟨"WeatherPass", "fitting", "([III)I"⟩, 7) := ⟨⟨by decide +kernel, by decide +kernel⟩, List.mem_of_getElem? (i := 13) (by decide +kernel), List.mem_of_getElem? (i := 385) (by decide +kernel), List.mem_of_getElem? (i := 386) (by decide +kernel)⟩
theorem lw_p25 : lw_okq (⟨"WeatherPass", "areReadingsSo", "()Z"⟩, 7) := ⟨⟨by decide +kernel, by decide +kernel⟩, List.mem_of_getElem? (i := 13) (by decide +kernel), List.mem_of_getElem? (i := 389) (by decide +kernel), List.mem_of_getElem? (i := 390) (by decide +kernel)⟩
theorem lw_p26 : lw_okq (⟨"WeatherPass$Readings", "areSo", "(I[I)Z"⟩, 4) := ⟨⟨by decide +kernel, by decide +kernel⟩, List.mem_of_getElem? (i := 114) (by decide +kernel), List.mem_of_getElem? (i := 393) (by decide +kernel), List.mem_of_getElem? (i := 394) (by decide +kernel)⟩
theorem lw_p27 : lw_okq (⟨"WeatherPass", "setsOfDaysThatFlood", "(I)I"⟩, 7) := ⟨⟨by decide +kernel, by decide +kernel⟩, List.mem_of_getElem? (i := 13) (by decide +kernel), List.mem_of_getElem? (i := 410) (by decide +kernel), List.mem_of_getElem? (i := 411) (by decide +kernel)⟩
theorem lw_p28 : lw_okq (⟨"WeatherPass$Sheets", "renew", "(III)V"⟩, 3) := ⟨⟨by decide +kernel, by decide +kernel⟩, List.mem_of_getElem? (i := 21) (by decide +kernel), List.mem_of_getElem? (i := 418) (by decide +kernel), List.mem_of_getElem? (i := 419) (by decide +kernel)⟩
theorem lw_p29 : lw_okq (⟨"WeatherPass$Sheets", "hasCell", "(II)Z"⟩, 3) := ⟨⟨by decide +kernel, by decide +kernel⟩, List.mem_of_getElem? (i := 21) (by decide +kernel), List.mem_of_getElem? (i := 431) (by decide +kernel), List.mem_of_getElem? (i := 432) (by decide +kernel)⟩
theorem lw_p30 : lw_okq (⟨"WeatherPass$Sheets", "write", "(III)V"⟩, 3) := ⟨⟨by decide +kernel, by decide +kernel⟩, List.mem_of_getElem? (i := 21) (by decide +kernel), List.mem_of_getElem? (i := 435) (by decide +kernel), List.mem_of_getElem? (i := 436) (by decide +kernel)⟩
theorem lw_p31 : lw_okq (⟨"WeatherPass", "tellAsFree", "(I)I"⟩, 7) := ⟨⟨by decide +kernel, by decide +kernel⟩, List.mem_of_getElem? (i := 13) (by decide +kernel), List.mem_of_getElem? (i := 454) (by decide +kernel), List.mem_of_getElem? (i := 455) (by decide +kernel)⟩
def lw_privs_2 : List (MethodName × Nat) := [(⟨"WeatherPass$Land", "goesOn", "(IIII)I"⟩, 7), (⟨"WeatherPass$Weather", "floodOn", "(II)V"⟩, 6), (⟨"WeatherPass$Weather", "contented", "(LWeatherPass$Land;)I"⟩, 6), (⟨"WeatherPass", "areSetsOfPosts", "(I)Z"⟩, 7), (⟨"WeatherPass$Land", "setsOfPosts", "()I"⟩, 7), (⟨"WeatherPass", "ofPlan", "(I)I"⟩, 7), (⟨"WeatherPass", "ofPlanField", "([II)I"⟩, 7), (⟨"WeatherPass$Readings", "keep", "(III)I"⟩, 4), (⟨"WeatherPass", "fitting", "([III)I"⟩, 7), (⟨"WeatherPass", "areReadingsSo", "()Z"⟩, 7), (⟨"WeatherPass$Readings", "areSo", "(I[I)Z"⟩, 4), (⟨"WeatherPass", "setsOfDaysThatFlood", "(I)I"⟩, 7), (⟨"WeatherPass$Sheets", "renew", "(III)V"⟩, 3), (⟨"WeatherPass$Sheets", "hasCell", "(II)Z"⟩, 3), (⟨"WeatherPass$Sheets", "write", "(III)V"⟩, 3), (⟨"WeatherPass", "tellAsFree", "(I)I"⟩, 7)]
theorem lw_r2 : ∀ q ∈ lw_privs_2, lw_okq q := List.forall_mem_cons.mpr ⟨lw_p16, List.forall_mem_cons.mpr ⟨lw_p17, List.forall_mem_cons.mpr ⟨lw_p18, List.forall_mem_cons.mpr ⟨lw_p19, List.forall_mem_cons.mpr ⟨lw_p20, List.forall_mem_cons.mpr ⟨lw_p21, List.forall_mem_cons.mpr ⟨lw_p22, List.forall_mem_cons.mpr ⟨lw_p23, List.forall_mem_cons.mpr ⟨lw_p24, List.forall_mem_cons.mpr ⟨lw_p25, List.forall_mem_cons.mpr ⟨lw_p26, List.forall_mem_cons.mpr ⟨lw_p27, List.forall_mem_cons.mpr ⟨lw_p28, List.forall_mem_cons.mpr ⟨lw_p29, List.forall_mem_cons.mpr ⟨lw_p30, List.forall_mem_cons.mpr ⟨lw_p31, fun _ h => absurd h List.not_mem_nil⟩⟩⟩⟩⟩⟩⟩⟩⟩⟩⟩⟩⟩⟩⟩⟩
theorem lw_p32 : lw_okq (⟨"WeatherPass", "leave", "(I)V"⟩, 7) := ⟨⟨by decide +kernel, by decide +kernel⟩, List.mem_of_getElem? (i := 13) (by decide +kernel), List.mem_of_getElem? (i := 458) (by decide +kernel), List.mem_of_getElem? (i := 459) (by decide +kernel)⟩
theorem lw_p33 : lw_okq (⟨"WeatherPass", "tellAsCustoms", "(I)I"⟩, 7) := ⟨⟨by decide +kernel, by decide +kernel⟩, List.mem_of_getElem? (i := 13) (by decide +kernel), List.mem_of_getElem? (i := 462) (by decide +kernel), List.mem_of_getElem? (i := 463) (by decide +kernel)⟩
theorem lw_p34 : lw_okq (⟨"WeatherPass", "tellAsPost", "(I)I"⟩, 7) := ⟨⟨by decide +kernel, by decide +kernel⟩, List.mem_of_getElem? (i := 13) (by decide +kernel), List.mem_of_getElem? (i := 466) (by decide +kernel), List.mem_of_getElem? (i := 467) (by decide +kernel)⟩
theorem lw_p35 : lw_okq (⟨"WeatherPassModel", "against", "(IIII)I"⟩, 30) := ⟨⟨by decide +kernel, by decide +kernel⟩, List.mem_of_getElem? (i := 490) (by decide +kernel), List.mem_of_getElem? (i := 600) (by decide +kernel), List.mem_of_getElem? (i := 601) (by decide +kernel)⟩
theorem lw_p36 : lw_okq (⟨"WeatherPassModel", "fails", "(I)I"⟩, 30) := ⟨⟨by decide +kernel, by decide +kernel⟩, List.mem_of_getElem? (i := 490) (by decide +kernel), List.mem_of_getElem? (i := 604) (by decide +kernel), List.mem_of_getElem? (i := 605) (by decide +kernel)⟩
theorem lw_p37 : lw_okq (⟨"WeatherPassModel", "readLand", "(I)Z"⟩, 30) := ⟨⟨by decide +kernel, by decide +kernel⟩, List.mem_of_getElem? (i := 490) (by decide +kernel), List.mem_of_getElem? (i := 608) (by decide +kernel), List.mem_of_getElem? (i := 609) (by decide +kernel)⟩
theorem lw_p38 : lw_okq (⟨"WeatherPassModel", "isSign", "(II)Z"⟩, 30) := ⟨⟨by decide +kernel, by decide +kernel⟩, List.mem_of_getElem? (i := 490) (by decide +kernel), List.mem_of_getElem? (i := 612) (by decide +kernel), List.mem_of_getElem? (i := 613) (by decide +kernel)⟩
theorem lw_p39 : lw_okq (⟨"WeatherPassModel", "digit", "(III)I"⟩, 30) := ⟨⟨by decide +kernel, by decide +kernel⟩, List.mem_of_getElem? (i := 490) (by decide +kernel), List.mem_of_getElem? (i := 616) (by decide +kernel), List.mem_of_getElem? (i := 617) (by decide +kernel)⟩
theorem lw_p40 : lw_okq (⟨"WeatherPassModel", "readField", "(II)Z"⟩, 30) := ⟨⟨by decide +kernel, by decide +kernel⟩, List.mem_of_getElem? (i := 490) (by decide +kernel), List.mem_of_getElem? (i := 620) (by decide +kernel), List.mem_of_getElem? (i := 621) (by decide +kernel)⟩
theorem lw_p41 : lw_okq (⟨"WeatherPassModel", "readPost", "(II)Z"⟩, 30) := ⟨⟨by decide +kernel, by decide +kernel⟩, List.mem_of_getElem? (i := 490) (by decide +kernel), List.mem_of_getElem? (i := 624) (by decide +kernel), List.mem_of_getElem? (i := 625) (by decide +kernel)⟩
theorem lw_p42 : lw_okq (⟨"WeatherPassModel", "readTheDays", "(I)Z"⟩, 30) := ⟨⟨by decide +kernel, by decide +kernel⟩, List.mem_of_getElem? (i := 490) (by decide +kernel), List.mem_of_getElem? (i := 628) (by decide +kernel), List.mem_of_getElem? (i := 629) (by decide +kernel)⟩
theorem lw_p43 : lw_okq (⟨"WeatherPassModel", "takeLand", "()V"⟩, 30) := ⟨⟨by decide +kernel, by decide +kernel⟩, List.mem_of_getElem? (i := 490) (by decide +kernel), List.mem_of_getElem? (i := 632) (by decide +kernel), List.mem_of_getElem? (i := 633) (by decide +kernel)⟩
theorem lw_p44 : lw_okq (⟨"WeatherPassModel", "isField", "(I)Z"⟩, 30) := ⟨⟨by decide +kernel, by decide +kernel⟩, List.mem_of_getElem? (i := 490) (by decide +kernel), List.mem_of_getElem? (i := 640) (by decide +kernel), List.mem_of_getElem? (i := 641) (by decide +kernel)⟩
theorem lw_p45 : lw_okq (⟨"WeatherPassModel", "isPost", "(I)Z"⟩, 30) := ⟨⟨by decide +kernel, by decide +kernel⟩, List.mem_of_getElem? (i := 490) (by decide +kernel), List.mem_of_getElem? (i := 648) (by decide +kernel), List.mem_of_getElem? (i := 649) (by decide +kernel)⟩
theorem lw_p46 : lw_okq (⟨"WeatherPassModel", "letsBy", "(II)I"⟩, 30) := ⟨⟨by decide +kernel, by decide +kernel⟩, List.mem_of_getElem? (i := 490) (by decide +kernel), List.mem_of_getElem? (i := 656) (by decide +kernel), List.mem_of_getElem? (i := 657) (by decide +kernel)⟩
theorem lw_p47 : lw_okq (⟨"WeatherPassModel", "isDay", "(I)Z"⟩, 30) := ⟨⟨by decide +kernel, by decide +kernel⟩, List.mem_of_getElem? (i := 490) (by decide +kernel), List.mem_of_getElem? (i := 668) (by decide +kernel), List.mem_of_getElem? (i := 669) (by decide +kernel)⟩
def lw_privs_3 : List (MethodName × Nat) := [(⟨"WeatherPass", "leave", "(I)V"⟩, 7), (⟨"WeatherPass", "tellAsCustoms", "(I)I"⟩, 7), (⟨"WeatherPass", "tellAsPost", "(I)I"⟩, 7), (⟨"WeatherPassModel", "against", "(IIII)I"⟩, 30), (⟨"WeatherPassModel", "fails", "(I)I"⟩, 30), (⟨"WeatherPassModel", "readLand", "(I)Z"⟩, 30), (⟨"WeatherPassModel", "isSign", "(II)Z"⟩, 30), (⟨"WeatherPassModel", "digit", "(III)I"⟩, 30), (⟨"WeatherPassModel", "readField", "(II)Z"⟩, 30), (⟨"WeatherPassModel", "readPost", "(II)Z"⟩, 30), (⟨"WeatherPassModel", "readTheDays", "(I)Z"⟩, 30), (⟨"WeatherPassModel", "takeLand", "()V"⟩, 30), (⟨"WeatherPassModel", "isField", "(I)Z"⟩, 30), (⟨"WeatherPassModel", "isPost", "(I)Z"⟩, 30), (⟨"WeatherPassModel", "letsBy", "(II)I"⟩, 30), (⟨"WeatherPassModel", "isDay", "(I)Z"⟩, 30)]
theorem lw_r3 : ∀ q ∈ lw_privs_3, lw_okq q := List.forall_mem_cons.mpr ⟨lw_p32, List.forall_mem_cons.mpr ⟨lw_p33, List.forall_mem_cons.mpr ⟨lw_p34, List.forall_mem_cons.mpr ⟨lw_p35, List.forall_mem_cons.mpr ⟨lw_p36, List.forall_mem_cons.mpr ⟨lw_p37, List.forall_mem_cons.mpr ⟨lw_p38, List.forall_mem_cons.mpr ⟨lw_p39, List.forall_mem_cons.mpr ⟨lw_p40, List.forall_mem_cons.mpr ⟨lw_p41, List.forall_mem_cons.mpr ⟨lw_p42, List.forall_mem_cons.mpr ⟨lw_p43, List.forall_mem_cons.mpr ⟨lw_p44, List.forall_mem_cons.mpr ⟨lw_p45, List.forall_mem_cons.mpr ⟨lw_p46, List.forall_mem_cons.mpr ⟨lw_p47, fun _ h => absurd h List.not_mem_nil⟩⟩⟩⟩⟩⟩⟩⟩⟩⟩⟩⟩⟩⟩⟩⟩
theorem lw_p48 : lw_okq (⟨"WeatherPassModel", "goDays", "(II)V"⟩, 30) := ⟨⟨by decide +kernel, by decide +kernel⟩, List.mem_of_getElem? (i := 490) (by decide +kernel), List.mem_of_getElem? (i := 676) (by decide +kernel), List.mem_of_getElem? (i := 677) (by decide +kernel)⟩
theorem lw_p49 : lw_okq (⟨"WeatherPassModel", "begin", "()V"⟩, 30) := ⟨⟨by decide +kernel, by decide +kernel⟩, List.mem_of_getElem? (i := 490) (by decide +kernel), List.mem_of_getElem? (i := 680) (by decide +kernel), List.mem_of_getElem? (i := 681) (by decide +kernel)⟩
theorem lw_p50 : lw_okq (⟨"WeatherPassModel", "goDay", "(III)V"⟩, 30) := ⟨⟨by decide +kernel, by decide +kernel⟩, List.mem_of_getElem? (i := 490) (by decide +kernel), List.mem_of_getElem? (i := 684) (by decide +kernel), List.mem_of_getElem? (i := 685) (by decide +kernel)⟩
theorem lw_p51 : lw_okq (⟨"WeatherPassModel", "goesOn", "(III)I"⟩, 30) := ⟨⟨by decide +kernel, by decide +kernel⟩, List.mem_of_getElem? (i := 490) (by decide +kernel), List.mem_of_getElem? (i := 688) (by decide +kernel), List.mem_of_getElem? (i := 689) (by decide +kernel)⟩
theorem lw_p52 : lw_okq (⟨"WeatherPassModel", "falls", "(III)V"⟩, 30) := ⟨⟨by decide +kernel, by decide +kernel⟩, List.mem_of_getElem? (i := 490) (by decide +kernel), List.mem_of_getElem? (i := 692) (by decide +kernel), List.mem_of_getElem? (i := 693) (by decide +kernel)⟩
theorem lw_p53 : lw_okq (⟨"WeatherPassModel", "enoughSet", "()I"⟩, 30) := ⟨⟨by decide +kernel, by decide +kernel⟩, List.mem_of_getElem? (i := 490) (by decide +kernel), List.mem_of_getElem? (i := 708) (by decide +kernel), List.mem_of_getElem? (i := 709) (by decide +kernel)⟩
theorem lw_p54 : lw_okq (⟨"WeatherPassModel", "posts", "()I"⟩, 30) := ⟨⟨by decide +kernel, by decide +kernel⟩, List.mem_of_getElem? (i := 490) (by decide +kernel), List.mem_of_getElem? (i := 716) (by decide +kernel), List.mem_of_getElem? (i := 717) (by decide +kernel)⟩
theorem lw_p55 : lw_okq (⟨"WeatherPassModel", "tellPlan", "(I)I"⟩, 30) := ⟨⟨by decide +kernel, by decide +kernel⟩, List.mem_of_getElem? (i := 490) (by decide +kernel), List.mem_of_getElem? (i := 720) (by decide +kernel), List.mem_of_getElem? (i := 721) (by decide +kernel)⟩
theorem lw_p56 : lw_okq (⟨"WeatherPassModel", "doesFlood", "(II)Z"⟩, 30) := ⟨⟨by decide +kernel, by decide +kernel⟩, List.mem_of_getElem? (i := 490) (by decide +kernel), List.mem_of_getElem? (i := 739) (by decide +kernel), List.mem_of_getElem? (i := 740) (by decide +kernel)⟩
theorem lw_p57 : lw_okq (⟨"WeatherPassModel", "areSo", "()Z"⟩, 30) := ⟨⟨by decide +kernel, by decide +kernel⟩, List.mem_of_getElem? (i := 490) (by decide +kernel), List.mem_of_getElem? (i := 755) (by decide +kernel), List.mem_of_getElem? (i := 756) (by decide +kernel)⟩
theorem lw_p58 : lw_okq (⟨"WeatherPassModel", "areSoBehind", "(I)Z"⟩, 30) := ⟨⟨by decide +kernel, by decide +kernel⟩, List.mem_of_getElem? (i := 490) (by decide +kernel), List.mem_of_getElem? (i := 759) (by decide +kernel), List.mem_of_getElem? (i := 760) (by decide +kernel)⟩
theorem lw_p59 : lw_okq (⟨"WeatherPassModel", "lost", "(I)J"⟩, 30) := ⟨⟨by decide +kernel, by decide +kernel⟩, List.mem_of_getElem? (i := 490) (by decide +kernel), List.mem_of_getElem? (i := 795) (by decide +kernel), List.mem_of_getElem? (i := 796) (by decide +kernel)⟩
theorem lw_p60 : lw_okq (⟨"WeatherPassModel", "begins", "(I)V"⟩, 30) := ⟨⟨by decide +kernel, by decide +kernel⟩, List.mem_of_getElem? (i := 490) (by decide +kernel), List.mem_of_getElem? (i := 807) (by decide +kernel), List.mem_of_getElem? (i := 808) (by decide +kernel)⟩
def lw_privs_4 : List (MethodName × Nat) := [(⟨"WeatherPassModel", "goDays", "(II)V"⟩, 30), (⟨"WeatherPassModel", "begin", "()V"⟩, 30), (⟨"WeatherPassModel", "goDay", "(III)V"⟩, 30), (⟨"WeatherPassModel", "goesOn", "(III)I"⟩, 30), (⟨"WeatherPassModel", "falls", "(III)V"⟩, 30), (⟨"WeatherPassModel", "enoughSet", "()I"⟩, 30), (⟨"WeatherPassModel", "posts", "()I"⟩, 30), (⟨"WeatherPassModel", "tellPlan", "(I)I"⟩, 30), (⟨"WeatherPassModel", "doesFlood", "(II)Z"⟩, 30), (⟨"WeatherPassModel", "areSo", "()Z"⟩, 30), (⟨"WeatherPassModel", "areSoBehind", "(I)Z"⟩, 30), (⟨"WeatherPassModel", "lost", "(I)J"⟩, 30), (⟨"WeatherPassModel", "begins", "(I)V"⟩, 30)]
theorem lw_r4 : ∀ q ∈ lw_privs_4, lw_okq q := List.forall_mem_cons.mpr ⟨lw_p48, List.forall_mem_cons.mpr ⟨lw_p49, List.forall_mem_cons.mpr ⟨lw_p50, List.forall_mem_cons.mpr ⟨lw_p51, List.forall_mem_cons.mpr ⟨lw_p52, List.forall_mem_cons.mpr ⟨lw_p53, List.forall_mem_cons.mpr ⟨lw_p54, List.forall_mem_cons.mpr ⟨lw_p55, List.forall_mem_cons.mpr ⟨lw_p56, List.forall_mem_cons.mpr ⟨lw_p57, List.forall_mem_cons.mpr ⟨lw_p58, List.forall_mem_cons.mpr ⟨lw_p59, List.forall_mem_cons.mpr ⟨lw_p60, fun _ h => absurd h List.not_mem_nil⟩⟩⟩⟩⟩⟩⟩⟩⟩⟩⟩⟩⟩
def lw_privs : List (MethodName × Nat) := lw_privs_1 ++ (lw_privs_2 ++ (lw_privs_3 ++ (lw_privs_4)))
def lw_tbl : List Cond := k2_sels lw_privs ++ tables_1
theorem lw_privs_ok : ∀ q ∈ lw_privs, lw_okq q := by
  show ∀ q ∈ lw_privs_1 ++ (lw_privs_2 ++ (lw_privs_3 ++ (lw_privs_4))), lw_okq q
  exact List.forall_mem_append.mpr ⟨lw_r1, List.forall_mem_append.mpr ⟨lw_r2, List.forall_mem_append.mpr ⟨lw_r3, lw_r4⟩⟩⟩
def va_AOA (t : FieldType) (U : State) : Prop := (Cond.arrayOver (.array t)).before #[] U = true
theorem va_AOA.of {t : FieldType} {A : Array Value} {U : State} (h : (Cond.arrayOver (.array t)).before A U = true) : va_AOA t U := h
theorem va_AOA.use {t : FieldType} {A : Array Value} {U : State} (h : va_AOA t U) : (Cond.arrayOver (.array t)).before A U = true := h
/-! ===== BEGIN words of one list among another's, by their places ===== -/
theorem goodIn_r {big : List Cond} (ws : List Cond) (ps : List Nat) (hp : ws = ps.filterMap (fun i => big[i]?)) (h : ws.all goodWord = true) : GoodIn big ws := by
  intro w hw
  have h1 := List.all_eq_true.mp h w hw
  rw [hp] at hw
  obtain ⟨i, -, hi⟩ := List.mem_filterMap.mp hw
  have hm : w ∈ big := by first | exact List.mem_of_getElem? hi | exact List.getElem?_mem hi
  exact ⟨hm, good_of_word h1⟩
theorem goodIn_app {big a b : List Cond} (ha : GoodIn big a) (hb : GoodIn big b) : GoodIn big (a ++ b) := fun w h => (List.mem_append.mp h).elim (ha w) (hb w)
theorem goodIn_ca {big a b : List Cond} {c : Cond} (ha : GoodIn big (c :: a)) (hb : GoodIn big b) : GoodIn big (c :: (a ++ b)) := fun w h => (List.mem_cons.mp h).elim (fun e => ha w (List.mem_cons.mpr (Or.inl e))) (fun h => (List.mem_append.mp h).elim (fun h => ha w (List.mem_cons.mpr (Or.inr h))) (hb w))
theorem goodIn_sub {big ws : List Cond} (hm : ∀ w ∈ ws, w ∈ big) (h : ws.all goodWord = true) : GoodIn big ws := fun w hw => ⟨hm w hw, good_of_word (List.all_eq_true.mp h w hw)⟩
/-! ===== END ===== -/

/-! ===== BEGIN new T[n][m]: the outer array a place, the inner ones among the pooled ===== -/
/-- f, but v at every address of l -/
def vr_up {α : Type} (f : Nat → α) (l : List Nat) (v : α) : Nat → α := fun a => if a ∈ l then v else f a
theorem vr_up_in {α : Type} {f : Nat → α} {l : List Nat} {v : α} {a : Nat} (h : a ∈ l) : vr_up f l v a = v := if_pos h
theorem vr_up_ne {α : Type} {f : Nat → α} {l : List Nat} {v : α} {a : Nat} (h : a ∉ l) : vr_up f l v a = f a := if_neg h
theorem vr_rows {L l : List Nat} {f : Nat → va_E} {e : va_E} (h : ∀ a, a ∈ l → a ∉ L) : va_pl L f ++ l.map (fun a => (a, e)) = va_pl (L ++ l) (vr_up f l e) := by
  unfold va_pl
  rw [List.map_append]
  congr 1
  · apply List.map_congr_left
    intro a ha
    rw [vr_up_ne (fun q => h a q ha)]
  · apply List.map_congr_left
    intro a ha
    rw [vr_up_in ha]
theorem vr_lay {X rows : va_W} {x : Nat × va_E} {pl : va_W} {D : va_G} {cl : List vw_C} {H : Heap} (hP : va_P D cl (((X ++ pl) ++ [x]) ++ rows) H) : va_P D cl ((X ++ [x]) ++ (pl ++ rows)) H := by
  rw [List.append_assoc (X ++ pl)] at hP
  have h := va_P.swap hP
  rw [← List.append_assoc X] at h
  have h2 := va_P.swap h
  rw [List.append_assoc (X ++ [x])] at h2
  exact h2
theorem vr_layD {X rows : va_W} {x : Nat × va_E} {pl : va_W} {A : Nat → Prop} (hD : va_D A (((X ++ pl) ++ [x]) ++ rows)) : va_D A ((X ++ [x]) ++ (pl ++ rows)) := by
  rw [List.append_assoc (X ++ pl)] at hD
  have h := va_D.swap hD
  rw [← List.append_assoc X] at h
  have h2 := va_D.swap h
  rw [List.append_assoc (X ++ [x])] at h2
  exact h2
theorem vr_outer (c : ClassId) (N h0 : Nat) : ∀ i : Nat, Jvm.Free.Multi.outerC c N h0 i = arrV c N (fun j => va_rf (if j < i then some (h0 + 1 + j) else none))
  | 0 => by
    show ({ cls := c, slots := Array.replicate N .null, vm := .none } : Cell) = _
    rw [arrV_new]
    refine congrArg (arrV c N) (funext fun j => ?_)
    simp [va_rf]
  | i + 1 => by
    show (Jvm.Free.Multi.outerC c N h0 i).setSlot i (.ref (h0 + 1 + i)) = _
    rw [vr_outer c N h0 i, arrV_store]
    refine congrArg (arrV c N) (funext fun j => ?_)
    by_cases e : j = i
    · subst e
      simp [updV, va_rf]
    · by_cases h : j < i
      · simp [updV, e, h, Nat.lt_succ_of_lt h]
      · simp [updV, e, h, show ¬ j < i + 1 by omega]
section VGM
variable {p : Program} {l : Launch} {e : Env} {R : Room} {s : State} {m : MethodId} {args : Array Value} {below : List Frame} {meth : Method} {c : Code} {H : Heap} {locs : List Loc} {cells slots : Nat} {Q : State → Prop}
variable {cc : ByteArray} {pc : Nat} {ls : Array Slot} {rest : List Value} {D : va_G} {cl : List vw_C} {A : Nat → Prop} {a : Nat} {tys : List (ClassId × FieldType)} {ws : va_W} {H0 : Heap}
theorem va_mna {X : va_W} {L : List Nat} {f : Nat → va_E} {cc : ByteArray} (hexec : p.tables.exec = Jvm.exec) (hb : c.code = cc) {own : String} {index : Nat} {ty : FieldType} {cy : ClassId} (hown : s.vm.findClass own = some m.cls) (hclink : (Cond.classLink own index ("[" ++ (FieldType.array ty).toString)).before args s = true) (hover : va_AOA ty s) (harr : (Cond.arrayClass ty).before args s = true) (hcy : s.vm.findClass (FieldType.array ty).toString = some cy)
    (hK : va_K D cl tys s) (hP : va_P D cl (X ++ va_pl L f) H) (hD : va_D A (X ++ va_pl L f)) (hS : va_S A H0 H locs) (hA : ∀ q, H0.size ≤ q → A q) {n k : Int32} {N' K' : Nat} {z : vp_A} (hn : ¬ n < 0) (hk : ¬ k < 0) (hN : n.toNatClampNeg = N') (hM : k.toNatClampNeg = K')
    (hb1 : N' * 4 ≤ 536870912) (hb2 : K' * componentBytes ty ≤ 536870912) (hb3 : K' ≤ 536870912) (hdf : fits ty (defaultValue ty) = true) (hdd : (defaultValue ty).isDefault = true) (hcells : cells + (1 + N') ≤ R.cells) (hslots : slots + (N' + N' * K') ≤ R.slots) (hz : ∀ c : ClassId, Jvm.Free.Multi.innerC c K' (defaultValue ty) = vp_cell c z) (hdg : decode cc pc = .ok (.multianewarray index 2, 4))
    (kk : ∀ (q : Nat) (r : Nat → Nat) (cA : ClassId) (H1 : Heap), (∀ i j : Nat, i < N' → j < N' → r i = r j → i = j) → (∀ i : Nat, i < N' → r i ∉ L) → va_K D cl (tys ++ [(cA, .array ty)]) s →
      va_P D cl ((X ++ [(q, .inl (cA, N', .inr (.inr (.inr (.inr (fun i => if i < N' then some (r i) else none))))))]) ++ va_pl (L ++ (List.range N').map r) (vr_up f ((List.range N').map r) (.inl (cy, z)))) H1 → va_D A ((X ++ [(q, .inl (cA, N', .inr (.inr (.inr (.inr (fun i => if i < N' then some (r i) else none))))))]) ++ va_pl (L ++ (List.range N').map r) (vr_up f ((List.range N').map r) (.inl (cy, z)))) → va_S A H0 H1 locs →
      W p l e R s m args below meth c H1 locs (cells + 1 + N') (slots + N' + N' * K') Q (F0 m (pc + 4) ls (.ref q :: rest))) : W p l e R s m args below meth c H locs cells slots Q (F0 m pc ls (.int k :: .int n :: rest)) := by
  subst hN
  subst hM
  intro T hT Xs
  obtain ⟨vm₁, cA, comp, -, fA, fC, hO, -, X', step⟩ := Xs.multianewarray2F hexec hown hclink (va_AOA.use hover) harr (g := F0 m pc ls (.int k :: .int n :: rest)) rfl (by rw [hb]; exact hdg) rfl hn hk hb1 hb2 hb3 hdf hdd hcells hslots
  have ec : some cy = some comp := hcy.symm.trans fC
  cases ec
  generalize hF : Jvm.Free.Multi.fill (T.setVm vm₁) cA cy n.toNatClampNeg k.toNatClampNeg (defaultValue ty) n.toNatClampNeg = F at X' step
  have hTh : (T.setVm vm₁).heap = H := hT
  obtain ⟨f1, f2, -, -⟩ := Jvm.Free.Multi.fill_facts (T.setVm vm₁) cA cy n.toNatClampNeg k.toNatClampNeg (defaultValue ty) n.toNatClampNeg
  rw [hF, hTh] at f1 f2
  have hold : ∀ x : Nat, x < H.size → F.heap[x]? = H[x]? := fun x hx => by
    have := Jvm.Free.Multi.fill_old (T.setVm vm₁) cA cy n.toNatClampNeg k.toNatClampNeg (defaultValue ty) (a := x) (by rw [hTh]; exact hx) n.toNatClampNeg
    rw [hF, hTh] at this
    exact this
  have hrow : ∀ j : Nat, j < n.toNatClampNeg → F.heap[H.size + 1 + j]? = some (vp_cell cy z) := fun j hj => by
    have := Jvm.Free.Multi.fill_inner (T.setVm vm₁) cA cy n.toNatClampNeg k.toNatClampNeg (defaultValue ty) n.toNatClampNeg j hj
    rw [hF, hTh, hz] at this
    exact this
  have hout : Jvm.Free.Multi.outerC cA n.toNatClampNeg H.size n.toNatClampNeg = vp_cell cA (n.toNatClampNeg, .inr (.inr (.inr (.inr (fun i => if i < n.toNatClampNeg then some (H.size + 1 + i) else none))))) := by
    rw [vp_cell_q]
    exact vr_outer cA n.toNatClampNeg H.size n.toNatClampNeg
  rw [hout] at f2
  have hlt : ∀ a, a ∈ L → a < H.size := fun a ha => by
    obtain ⟨k9, hk9⟩ := va_pl_get (X := X) (f := f) ha
    exact (hP k9 _ hk9).lt
  have hnl : ∀ i : Nat, i < n.toNatClampNeg → H.size + 1 + i ∉ L := fun i _ h => by
    have := hlt _ h
    omega
  have hnm : ∀ a, a ∈ (List.range n.toNatClampNeg).map (fun i => H.size + 1 + i) → a ∉ L := fun a ha h => by
    obtain ⟨i, -, rfl⟩ := List.mem_map.mp ha
    have := hlt _ h
    omega
  have hP0 : va_P D cl (X ++ va_pl L f) F.heap := hP.kept (fun k9 x hx => hold x.1 ((hP k9 x hx).lt))
  have hP1 : va_P D cl ((X ++ va_pl L f) ++ [(H.size, .inl (cA, n.toNatClampNeg, .inr (.inr (.inr (.inr (fun i => if i < n.toNatClampNeg then some (H.size + 1 + i) else none))))))]) F.heap := hP0.app (fun k9 x hx => by
    have h0 : k9 < 1 := (List.getElem?_eq_some_iff.mp hx).1
    rw [show k9 = 0 by omega] at hx
    cases hx
    exact f2)
  have hP2 : va_P D cl (((X ++ va_pl L f) ++ [(H.size, .inl (cA, n.toNatClampNeg, .inr (.inr (.inr (.inr (fun i => if i < n.toNatClampNeg then some (H.size + 1 + i) else none))))))]) ++ ((List.range n.toNatClampNeg).map (fun i => H.size + 1 + i)).map (fun a => (a, .inl (cy, z)))) F.heap := hP1.app (fun k9 x hx => by
    obtain ⟨a, ha, rfl⟩ := List.mem_map.mp (List.mem_of_getElem? hx)
    obtain ⟨i, hi, rfl⟩ := List.mem_map.mp ha
    exact hrow i (List.mem_range.mp hi))
  have hD2 : va_D A (((X ++ va_pl L f) ++ [(H.size, .inl (cA, n.toNatClampNeg, .inr (.inr (.inr (.inr (fun i => if i < n.toNatClampNeg then some (H.size + 1 + i) else none))))))]) ++ ((List.range n.toNatClampNeg).map (fun i => H.size + 1 + i)).map (fun a => (a, .inl (cy, z)))) := by
    have hD1 := hD.push (e := .inl (cA, n.toNatClampNeg, .inr (.inr (.inr (.inr (fun i => if i < n.toNatClampNeg then some (H.size + 1 + i) else none)))))) hP rfl (hA _ hS.1)
    generalize hW1 : (X ++ va_pl L f) ++ [(H.size, .inl (cA, n.toNatClampNeg, .inr (.inr (.inr (.inr (fun i => if i < n.toNatClampNeg then some (H.size + 1 + i) else none))))))] = W1 at hD1 hP1 ⊢
    have hle : ∀ (k9 : Nat) (x : Nat × va_E), W1[k9]? = some x → x.1 ≤ H.size := fun k9 x hx => by
      rw [← hW1] at hx
      by_cases hl : k9 < (X ++ va_pl L f).length
      · rw [List.getElem?_append_left hl] at hx
        exact Nat.le_of_lt ((hP k9 x hx).lt)
      · rw [List.getElem?_append_right (by omega)] at hx
        have h0 : k9 - (X ++ va_pl L f).length < 1 := (List.getElem?_eq_some_iff.mp hx).1
        rw [show k9 - (X ++ va_pl L f).length = 0 by omega] at hx
        cases hx
        exact Nat.le_refl _
    have hr : ∀ (k9 : Nat) (x : Nat × va_E), (((List.range n.toNatClampNeg).map (fun i => H.size + 1 + i)).map (fun a => ((a, .inl (cy, z)) : Nat × va_E)))[k9]? = some x → x.1 = H.size + 1 + k9 := fun k9 x hx => by
      rw [List.getElem?_map, List.getElem?_map] at hx
      by_cases h9 : k9 < n.toNatClampNeg
      · rw [List.getElem?_range h9] at hx
        cases hx
        rfl
      · have hn0 : (List.range n.toNatClampNeg)[k9]? = none := List.getElem?_eq_none (by rw [List.length_range]; omega)
        rw [hn0] at hx
        cases hx
    refine ⟨fun i j x y hi hj hxy => ?_, fun k9 x hx => ?_⟩
    · by_cases h1 : i < W1.length <;> by_cases h2 : j < W1.length
      · rw [List.getElem?_append_left h1] at hi
        rw [List.getElem?_append_left h2] at hj
        exact hD1.1 i j x y hi hj hxy
      · rw [List.getElem?_append_left h1] at hi
        rw [List.getElem?_append_right (by omega)] at hj
        have := hle _ _ hi
        have := hr _ _ hj
        omega
      · rw [List.getElem?_append_right (by omega)] at hi
        rw [List.getElem?_append_left h2] at hj
        have := hle _ _ hj
        have := hr _ _ hi
        omega
      · rw [List.getElem?_append_right (by omega)] at hi hj
        have := hr _ _ hi
        have := hr _ _ hj
        omega
    · by_cases h1 : k9 < W1.length
      · rw [List.getElem?_append_left h1] at hx
        exact hD1.2 k9 x hx
      · rw [List.getElem?_append_right (by omega)] at hx
        have := hr _ _ hx
        exact hA _ (by have := hS.1; omega)
  have hAr : ArrOfT s cA (.array ty) := fun N9 z9 => by
    obtain ⟨-, k9, hk9, cm9, hkk9⟩ := (hO 0 0 0).1
    exact ⟨(fun q hq => by cases hq), k9, hk9, cm9, hkk9⟩
  have hK2 : va_K D cl (tys ++ [(cA, .array ty)]) s := ⟨hK.1, fun k9 x hx => by
    by_cases hl : k9 < tys.length
    · rw [List.getElem?_append_left hl] at hx
      exact hK.2 k9 x hx
    · rw [List.getElem?_append_right (by omega)] at hx
      have h0 : k9 - tys.length < 1 := (List.getElem?_eq_some_iff.mp hx).1
      rw [show k9 - tys.length = 0 by omega] at hx
      cases hx
      exact ⟨hAr, fA⟩⟩
  obtain ⟨t, a1, b1⟩ := kk H.size (fun i => H.size + 1 + i) cA F.heap (fun i j _ _ h => by have h9 : H.size + 1 + i = H.size + 1 + j := h; omega) hnl hK2 (by rw [← vr_rows hnm]; exact vr_lay hP2) (by rw [← vr_rows hnm]; exact vr_layD hD2) ⟨by rw [f1]; have := hS.1; omega, fun x h1 h2 => (hold x (Nat.lt_of_lt_of_le h1 hS.1)).trans (hS.2.1 x h1 h2), hS.2.2⟩ F rfl X'
  refine ⟨t, step t ?_, b1⟩
  have e : T.heap.size = H.size := by rw [hT]
  rw [e]
  exact a1
end VGM
/-! ===== END ===== -/

def RX0 : String := "WeatherPass$Land"
def TX0 : u_T := fun k => match k with
  | 0 => ("WeatherPass$Land", "fields", "I", false)
  | 1 => ("WeatherPass$Land", "days", "I", false)
  | 2 => ("WeatherPass$Land", "needs", "[I", true)
  | 3 => ("WeatherPass$Land", "holds", "[I", true)
  | 4 => ("WeatherPass$Land", "kinds", "[I", true)
  | 5 => ("WeatherPass$Land", "limits", "[I", true)
  | _ => ("WeatherPass$Land", "rains", "[I", true)
def tyX0 : Nat → FieldType := fun k => match k with
  | 0 => .int
  | 1 => .int
  | 2 => .array .int
  | 3 => .array .int
  | 4 => .array .int
  | 5 => .array .int
  | _ => .array .int
abbrev wsX00 : List Cond := u_ws RX0 TX0 7
theorem nmX0 : ∀ a, a < 7 → ∀ b, b < 7 → a ≠ b → (TX0 a).2.1 ≠ (TX0 b).2.1 := by decide +kernel
theorem tyX0_ok : ∀ k, k < 7 → parseFieldDescriptor (TX0 k).2.2.1 = some (tyX0 k) := by decide +kernel
abbrev cX0_init : ByteArray := prog_2_method_1_code
def yX0_init : MethodName := ⟨RX0, "<init>", "()V"⟩
abbrev cX0_exists : ByteArray := prog_2_method_2_code
def yX0_exists : MethodName := ⟨RX0, "exists", "()Z"⟩
abbrev cX0_posts : ByteArray := prog_2_method_3_code
def yX0_posts : MethodName := ⟨RX0, "posts", "()I"⟩
abbrev cX0_setsOfPosts : ByteArray := prog_2_method_4_code
def yX0_setsOfPosts : MethodName := ⟨RX0, "setsOfPosts", "()I"⟩
abbrev cX0_hasField : ByteArray := prog_2_method_5_code
def yX0_hasField : MethodName := ⟨RX0, "hasField", "(I)Z"⟩
abbrev cX0_hasPost : ByteArray := prog_2_method_6_code
def yX0_hasPost : MethodName := ⟨RX0, "hasPost", "(I)Z"⟩
abbrev cX0_hasDay : ByteArray := prog_2_method_7_code
def yX0_hasDay : MethodName := ⟨RX0, "hasDay", "(I)Z"⟩
abbrev cX0_hasBehind : ByteArray := prog_2_method_8_code
def yX0_hasBehind : MethodName := ⟨RX0, "hasBehind", "(I)Z"⟩
abbrev cX0_become : ByteArray := prog_2_method_9_code
def yX0_become : MethodName := ⟨RX0, "become", "([II)V"⟩
abbrev cX0_letBy : ByteArray := prog_2_method_10_code
def yX0_letBy : MethodName := ⟨RX0, "letBy", "(II)I"⟩
abbrev cX0_goesOn : ByteArray := prog_2_method_11_code
def yX0_goesOn : MethodName := ⟨RX0, "goesOn", "(IIII)I"⟩
def RX1 : String := "WeatherPass$Readings"
def TX1 : u_T := fun k => match k with
  | 0 => ("WeatherPass$Readings", "count", "I", false)
  | 1 => ("WeatherPass$Readings", "fields", "[I", true)
  | 2 => ("WeatherPass$Readings", "behinds", "[I", true)
  | _ => ("WeatherPass$Readings", "wets", "[I", true)
def tyX1 : Nat → FieldType := fun k => match k with
  | 0 => .int
  | 1 => .array .int
  | 2 => .array .int
  | _ => .array .int
abbrev wsX10 : List Cond := u_ws RX1 TX1 4
theorem nmX1 : ∀ a, a < 4 → ∀ b, b < 4 → a ≠ b → (TX1 a).2.1 ≠ (TX1 b).2.1 := by decide +kernel
theorem tyX1_ok : ∀ k, k < 4 → parseFieldDescriptor (TX1 k).2.2.1 = some (tyX1 k) := by decide +kernel
abbrev cX1_init : ByteArray := prog_3_method_1_code
def yX1_init : MethodName := ⟨RX1, "<init>", "()V"⟩
abbrev cX1_keep : ByteArray := prog_3_method_2_code
def yX1_keep : MethodName := ⟨RX1, "keep", "(III)I"⟩
abbrev cX1_areSo : ByteArray := prog_3_method_3_code
def yX1_areSo : MethodName := ⟨RX1, "areSo", "(I[I)Z"⟩
def RX2 : String := "WeatherPass$Sheets"
def TX2 : u_T := fun k => match k with
  | 0 => ("WeatherPass$Sheets", "cells", "[[I", true)
  | 1 => ("WeatherPass$Sheets", "lanes", "[I", true)
  | _ => ("WeatherPass$Sheets", "sizes", "[I", true)
def tyX2 : Nat → FieldType := fun k => match k with
  | 0 => .array (.array .int)
  | 1 => .array .int
  | _ => .array .int
abbrev wsX20 : List Cond := u_ws RX2 TX2 3
theorem nmX2 : ∀ a, a < 3 → ∀ b, b < 3 → a ≠ b → (TX2 a).2.1 ≠ (TX2 b).2.1 := by decide +kernel
theorem tyX2_ok : ∀ k, k < 3 → parseFieldDescriptor (TX2 k).2.2.1 = some (tyX2 k) := by decide +kernel
abbrev cX2_init : ByteArray := prog_4_method_1_code
def yX2_init : MethodName := ⟨RX2, "<init>", "()V"⟩
abbrev cX2_isNothing : ByteArray := prog_4_method_2_code
def yX2_isNothing : MethodName := ⟨RX2, "isNothing", "(I)Z"⟩
abbrev cX2_renew : ByteArray := prog_4_method_3_code
def yX2_renew : MethodName := ⟨RX2, "renew", "(III)V"⟩
abbrev cX2_hasCell : ByteArray := prog_4_method_4_code
def yX2_hasCell : MethodName := ⟨RX2, "hasCell", "(II)Z"⟩
abbrev cX2_hasCells : ByteArray := prog_4_method_5_code
def yX2_hasCells : MethodName := ⟨RX2, "hasCells", "(III)Z"⟩
abbrev cX2_write : ByteArray := prog_4_method_6_code
def yX2_write : MethodName := ⟨RX2, "write", "(III)V"⟩
abbrev cX2_read : ByteArray := prog_4_method_7_code
def yX2_read : MethodName := ⟨RX2, "read", "(III[I)V"⟩
abbrev cX2_faultOfLane : ByteArray := prog_4_method_8_code
def yX2_faultOfLane : MethodName := ⟨RX2, "faultOfLane", "(II)I"⟩
abbrev cX2_faultOfCells : ByteArray := prog_4_method_9_code
def yX2_faultOfCells : MethodName := ⟨RX2, "faultOfCells", "(IIII)I"⟩
def RX3 : String := "WeatherPass$Text"
def TX3 : u_T := fun k => match k with
  | _ => ("", "", "", false)
def tyX3 : Nat → FieldType := fun k => match k with
  | _ => .int
abbrev wsX30 : List Cond := u_ws RX3 TX3 0
theorem nmX3 : ∀ a, a < 0 → ∀ b, b < 0 → a ≠ b → (TX3 a).2.1 ≠ (TX3 b).2.1 := by decide +kernel
theorem tyX3_ok : ∀ k, k < 0 → parseFieldDescriptor (TX3 k).2.2.1 = some (tyX3 k) := by decide +kernel
abbrev cX3_bordersAt : ByteArray := prog_5_method_2_code
def yX3_bordersAt : MethodName := ⟨RX3, "bordersAt", "(I)I"⟩
abbrev cX3_rainsAt : ByteArray := prog_5_method_3_code
def yX3_rainsAt : MethodName := ⟨RX3, "rainsAt", "(I)I"⟩
abbrev cX3_digit : ByteArray := prog_5_method_4_code
def yX3_digit : MethodName := ⟨RX3, "digit", "(I)I"⟩
abbrev cX3_firstFault : ByteArray := prog_5_method_5_code
def yX3_firstFault : MethodName := ⟨RX3, "firstFault", "([II)I"⟩
abbrev cX3_goesOn : ByteArray := prog_5_method_6_code
def yX3_goesOn : MethodName := ⟨RX3, "goesOn", "([II)Z"⟩
abbrev cX3_goesOnInBorder : ByteArray := prog_5_method_7_code
def yX3_goesOnInBorder : MethodName := ⟨RX3, "goesOnInBorder", "(II)Z"⟩
abbrev cX3_kind : ByteArray := prog_5_method_8_code
def yX3_kind : MethodName := ⟨RX3, "kind", "(I)I"⟩
def RX4 : String := "WeatherPass$Weather"
def TX4 : u_T := fun k => match k with
  | 0 => ("WeatherPass$Weather", "wets", "[I", true)
  | 1 => ("WeatherPass$Weather", "falls", "[I", true)
  | 2 => ("WeatherPass$Weather", "floods", "I", false)
  | 3 => ("WeatherPass$Weather", "flooded", "I", false)
  | 4 => ("WeatherPass$Weather", "firstDay", "I", false)
  | _ => ("WeatherPass$Weather", "firstField", "I", false)
def tyX4 : Nat → FieldType := fun k => match k with
  | 0 => .array .int
  | 1 => .array .int
  | 2 => .int
  | 3 => .int
  | 4 => .int
  | _ => .int
abbrev wsX40 : List Cond := u_ws RX4 TX4 6
theorem nmX4 : ∀ a, a < 6 → ∀ b, b < 6 → a ≠ b → (TX4 a).2.1 ≠ (TX4 b).2.1 := by decide +kernel
theorem tyX4_ok : ∀ k, k < 6 → parseFieldDescriptor (TX4 k).2.2.1 = some (tyX4 k) := by decide +kernel
abbrev cX4_init : ByteArray := prog_6_method_1_code
def yX4_init : MethodName := ⟨RX4, "<init>", "()V"⟩
abbrev cX4_begin : ByteArray := prog_6_method_2_code
def yX4_begin : MethodName := ⟨RX4, "begin", "()V"⟩
abbrev cX4_pass : ByteArray := prog_6_method_3_code
def yX4_pass : MethodName := ⟨RX4, "pass", "(LWeatherPass$Land;IIII)V"⟩
abbrev cX4_floodOn : ByteArray := prog_6_method_4_code
def yX4_floodOn : MethodName := ⟨RX4, "floodOn", "(II)V"⟩
abbrev cX4_contented : ByteArray := prog_6_method_5_code
def yX4_contented : MethodName := ⟨RX4, "contented", "(LWeatherPass$Land;)I"⟩
def RX5 : String := "WeatherPass"
def TX5 : u_T := fun k => match k with
  | 0 => ("WeatherPass", "sheets", "LWeatherPass$Sheets;", true)
  | 1 => ("WeatherPass", "land", "LWeatherPass$Land;", true)
  | 2 => ("WeatherPass", "weather", "LWeatherPass$Weather;", true)
  | 3 => ("WeatherPass", "readings", "LWeatherPass$Readings;", true)
  | 4 => ("WeatherPass", "taken", "[I", true)
  | 5 => ("WeatherPass", "trace", "I", false)
  | _ => ("WeatherPass", "latestFault", "I", false)
def tyX5 : Nat → FieldType := fun k => match k with
  | 0 => .object "WeatherPass$Sheets"
  | 1 => .object "WeatherPass$Land"
  | 2 => .object "WeatherPass$Weather"
  | 3 => .object "WeatherPass$Readings"
  | 4 => .array .int
  | 5 => .int
  | _ => .int
abbrev wsX50 : List Cond := u_ws RX5 TX5 7
theorem nmX5 : ∀ a, a < 7 → ∀ b, b < 7 → a ≠ b → (TX5 a).2.1 ≠ (TX5 b).2.1 := by decide +kernel
theorem tyX5_ok : ∀ k, k < 7 → parseFieldDescriptor (TX5 k).2.2.1 = some (tyX5 k) := by decide +kernel
abbrev cX5_init : ByteArray := prog_1_method_1_code
def yX5_init : MethodName := ⟨RX5, "<init>", "()V"⟩
abbrev cX5_land : ByteArray := prog_1_method_2_code
def yX5_land : MethodName := ⟨RX5, "land", "(IIII)I"⟩
abbrev cX5_ofField : ByteArray := prog_1_method_3_code
def yX5_ofField : MethodName := ⟨RX5, "ofField", "(II)I"⟩
abbrev cX5_ofPost : ByteArray := prog_1_method_4_code
def yX5_ofPost : MethodName := ⟨RX5, "ofPost", "(II)I"⟩
abbrev cX5_lets : ByteArray := prog_1_method_5_code
def yX5_lets : MethodName := ⟨RX5, "lets", "(II)I"⟩
abbrev cX5_limit : ByteArray := prog_1_method_6_code
def yX5_limit : MethodName := ⟨RX5, "limit", "(II)I"⟩
abbrev cX5_rain : ByteArray := prog_1_method_7_code
def yX5_rain : MethodName := ⟨RX5, "rain", "(II)I"⟩
abbrev cX5_wet : ByteArray := prog_1_method_8_code
def yX5_wet : MethodName := ⟨RX5, "wet", "(II)I"⟩
abbrev cX5_fell : ByteArray := prog_1_method_9_code
def yX5_fell : MethodName := ⟨RX5, "fell", "(II)I"⟩
abbrev cX5_flood : ByteArray := prog_1_method_10_code
def yX5_flood : MethodName := ⟨RX5, "flood", "(I)I"⟩
abbrev cX5_enough : ByteArray := prog_1_method_11_code
def yX5_enough : MethodName := ⟨RX5, "enough", "()I"⟩
abbrev cX5_plan : ByteArray := prog_1_method_12_code
def yX5_plan : MethodName := ⟨RX5, "plan", "(IIIII)I"⟩
abbrev cX5_papers : ByteArray := prog_1_method_13_code
def yX5_papers : MethodName := ⟨RX5, "papers", "()I"⟩
abbrev cX5_most : ByteArray := prog_1_method_14_code
def yX5_most : MethodName := ⟨RX5, "most", "()I"⟩
abbrev cX5_shut : ByteArray := prog_1_method_15_code
def yX5_shut : MethodName := ⟨RX5, "shut", "(I)I"⟩
abbrev cX5_reading : ByteArray := prog_1_method_16_code
def yX5_reading : MethodName := ⟨RX5, "reading", "(III)I"⟩
abbrev cX5_back : ByteArray := prog_1_method_17_code
def yX5_back : MethodName := ⟨RX5, "back", "(I)I"⟩
abbrev cX5_limits : ByteArray := prog_1_method_18_code
def yX5_limits : MethodName := ⟨RX5, "limits", "(I)I"⟩
abbrev cX5_kinds : ByteArray := prog_1_method_19_code
def yX5_kinds : MethodName := ⟨RX5, "kinds", "(I)I"⟩
abbrev cX5_rains : ByteArray := prog_1_method_20_code
def yX5_rains : MethodName := ⟨RX5, "rains", "(I)I"⟩
abbrev cX5_odds : ByteArray := prog_1_method_21_code
def yX5_odds : MethodName := ⟨RX5, "odds", "(II)J"⟩
abbrev cX5_sheet : ByteArray := prog_1_method_22_code
def yX5_sheet : MethodName := ⟨RX5, "sheet", "(III)I"⟩
abbrev cX5_lose : ByteArray := prog_1_method_23_code
def yX5_lose : MethodName := ⟨RX5, "lose", "(I)I"⟩
abbrev cX5_put : ByteArray := prog_1_method_24_code
def yX5_put : MethodName := ⟨RX5, "put", "(III)I"⟩
abbrev cX5_cell : ByteArray := prog_1_method_25_code
def yX5_cell : MethodName := ⟨RX5, "cell", "(III)J"⟩
abbrev cX5_copy : ByteArray := prog_1_method_26_code
def yX5_copy : MethodName := ⟨RX5, "copy", "(IIIII)I"⟩
abbrev cX5_tell : ByteArray := prog_1_method_27_code
def yX5_tell : MethodName := ⟨RX5, "tell", "(I)I"⟩
abbrev cX5_stamp : ByteArray := prog_1_method_28_code
def yX5_stamp : MethodName := ⟨RX5, "stamp", "(I)I"⟩
abbrev cX5_as : ByteArray := prog_1_method_29_code
def yX5_as : MethodName := ⟨RX5, "as", "(II)I"⟩
abbrev cX5_trace : ByteArray := prog_1_method_30_code
def yX5_trace : MethodName := ⟨RX5, "trace", "()I"⟩
abbrev cX5_fault : ByteArray := prog_1_method_31_code
def yX5_fault : MethodName := ⟨RX5, "fault", "()I"⟩
abbrev cX5_many : ByteArray := prog_1_method_32_code
def yX5_many : MethodName := ⟨RX5, "many", "(I)I"⟩
abbrev cX5_isSheet : ByteArray := prog_1_method_33_code
def yX5_isSheet : MethodName := ⟨RX5, "isSheet", "(I)Z"⟩
abbrev cX5_isLane : ByteArray := prog_1_method_34_code
def yX5_isLane : MethodName := ⟨RX5, "isLane", "(I)Z"⟩
abbrev cX5_isDigit : ByteArray := prog_1_method_35_code
def yX5_isDigit : MethodName := ⟨RX5, "isDigit", "(I)Z"⟩
abbrev cX5_isIn : ByteArray := prog_1_method_36_code
def yX5_isIn : MethodName := ⟨RX5, "isIn", "(II)Z"⟩
abbrev cX5_isFewer : ByteArray := prog_1_method_37_code
def yX5_isFewer : MethodName := ⟨RX5, "isFewer", "(II)Z"⟩
abbrev cX5_isAskedOfPlan : ByteArray := prog_1_method_38_code
def yX5_isAskedOfPlan : MethodName := ⟨RX5, "isAskedOfPlan", "(I)Z"⟩
abbrev cX5_blow : ByteArray := prog_1_method_39_code
def yX5_blow : MethodName := ⟨RX5, "blow", "(III)V"⟩
abbrev cX5_areSetsOfPosts : ByteArray := prog_1_method_40_code
def yX5_areSetsOfPosts : MethodName := ⟨RX5, "areSetsOfPosts", "(I)Z"⟩
abbrev cX5_ofPlan : ByteArray := prog_1_method_41_code
def yX5_ofPlan : MethodName := ⟨RX5, "ofPlan", "(I)I"⟩
abbrev cX5_ofPlanField : ByteArray := prog_1_method_42_code
def yX5_ofPlanField : MethodName := ⟨RX5, "ofPlanField", "([II)I"⟩
abbrev cX5_fitting : ByteArray := prog_1_method_43_code
def yX5_fitting : MethodName := ⟨RX5, "fitting", "([III)I"⟩
abbrev cX5_areReadingsSo : ByteArray := prog_1_method_44_code
def yX5_areReadingsSo : MethodName := ⟨RX5, "areReadingsSo", "()Z"⟩
abbrev cX5_setsOfDaysThatFlood : ByteArray := prog_1_method_45_code
def yX5_setsOfDaysThatFlood : MethodName := ⟨RX5, "setsOfDaysThatFlood", "(I)I"⟩
abbrev cX5_leave : ByteArray := prog_1_method_46_code
def yX5_leave : MethodName := ⟨RX5, "leave", "(I)V"⟩
abbrev cX5_tellAsPost : ByteArray := prog_1_method_47_code
def yX5_tellAsPost : MethodName := ⟨RX5, "tellAsPost", "(I)I"⟩
abbrev cX5_tellAsCustoms : ByteArray := prog_1_method_48_code
def yX5_tellAsCustoms : MethodName := ⟨RX5, "tellAsCustoms", "(I)I"⟩
abbrev cX5_tellAsFree : ByteArray := prog_1_method_49_code
def yX5_tellAsFree : MethodName := ⟨RX5, "tellAsFree", "(I)I"⟩
def RX6 : String := "WeatherPassModel"
def TX6 : u_T := fun k => match k with
  | 0 => ("WeatherPassModel", "fault", "I", false)
  | 1 => ("WeatherPassModel", "trace", "I", false)
  | 2 => ("WeatherPassModel", "sorts", "[I", true)
  | 3 => ("WeatherPassModel", "sheetLong", "[I", true)
  | 4 => ("WeatherPassModel", "cells", "[I", true)
  | 5 => ("WeatherPassModel", "fields", "I", false)
  | 6 => ("WeatherPassModel", "days", "I", false)
  | 7 => ("WeatherPassModel", "needs", "[I", true)
  | 8 => ("WeatherPassModel", "holds", "[I", true)
  | 9 => ("WeatherPassModel", "kind", "[I", true)
  | 10 => ("WeatherPassModel", "limitOf", "[I", true)
  | 11 => ("WeatherPassModel", "rainOf", "[I", true)
  | 12 => ("WeatherPassModel", "at", "I", false)
  | 13 => ("WeatherPassModel", "readFields", "I", false)
  | 14 => ("WeatherPassModel", "readDays", "I", false)
  | 15 => ("WeatherPassModel", "readNeeds", "[I", true)
  | 16 => ("WeatherPassModel", "readHolds", "[I", true)
  | 17 => ("WeatherPassModel", "readKind", "[I", true)
  | 18 => ("WeatherPassModel", "readLimit", "[I", true)
  | 19 => ("WeatherPassModel", "readRain", "[I", true)
  | 20 => ("WeatherPassModel", "wetNow", "[I", true)
  | 21 => ("WeatherPassModel", "fellNow", "[I", true)
  | 22 => ("WeatherPassModel", "floods", "I", false)
  | 23 => ("WeatherPassModel", "floodDay", "I", false)
  | 24 => ("WeatherPassModel", "floodField", "I", false)
  | 25 => ("WeatherPassModel", "closed", "I", false)
  | 26 => ("WeatherPassModel", "readings", "I", false)
  | 27 => ("WeatherPassModel", "readField", "[I", true)
  | 28 => ("WeatherPassModel", "readWhen", "[I", true)
  | _ => ("WeatherPassModel", "readWet", "[I", true)
def tyX6 : Nat → FieldType := fun k => match k with
  | 0 => .int
  | 1 => .int
  | 2 => .array .int
  | 3 => .array .int
  | 4 => .array .int
  | 5 => .int
  | 6 => .int
  | 7 => .array .int
  | 8 => .array .int
  | 9 => .array .int
  | 10 => .array .int
  | 11 => .array .int
  | 12 => .int
  | 13 => .int
  | 14 => .int
  | 15 => .array .int
  | 16 => .array .int
  | 17 => .array .int
  | 18 => .array .int
  | 19 => .array .int
  | 20 => .array .int
  | 21 => .array .int
  | 22 => .int
  | 23 => .int
  | 24 => .int
  | 25 => .int
  | 26 => .int
  | 27 => .array .int
  | 28 => .array .int
  | _ => .array .int
abbrev wsX60 : List Cond := u_ws RX6 TX6 30
theorem nmX6 : ∀ a, a < 30 → ∀ b, b < 30 → a ≠ b → (TX6 a).2.1 ≠ (TX6 b).2.1 := by decide +kernel
theorem tyX6_ok : ∀ k, k < 30 → parseFieldDescriptor (TX6 k).2.2.1 = some (tyX6 k) := by decide +kernel
abbrev cX6_init : ByteArray := prog_8_method_1_code
def yX6_init : MethodName := ⟨RX6, "<init>", "()V"⟩
abbrev cX6_fails : ByteArray := prog_8_method_3_code
def yX6_fails : MethodName := ⟨RX6, "fails", "(I)I"⟩
abbrev cX6_lost : ByteArray := prog_8_method_4_code
def yX6_lost : MethodName := ⟨RX6, "lost", "(I)J"⟩
abbrev cX6_within : ByteArray := prog_8_method_5_code
def yX6_within : MethodName := ⟨RX6, "within", "(III)Z"⟩
abbrev cX6_isSheet : ByteArray := prog_8_method_6_code
def yX6_isSheet : MethodName := ⟨RX6, "isSheet", "(I)Z"⟩
abbrev cX6_isSort : ByteArray := prog_8_method_7_code
def yX6_isSort : MethodName := ⟨RX6, "isSort", "(I)Z"⟩
abbrev cX6_against : ByteArray := prog_8_method_8_code
def yX6_against : MethodName := ⟨RX6, "against", "(IIII)I"⟩
abbrev cX6_isField : ByteArray := prog_8_method_9_code
def yX6_isField : MethodName := ⟨RX6, "isField", "(I)Z"⟩
abbrev cX6_isPost : ByteArray := prog_8_method_10_code
def yX6_isPost : MethodName := ⟨RX6, "isPost", "(I)Z"⟩
abbrev cX6_isDay : ByteArray := prog_8_method_11_code
def yX6_isDay : MethodName := ⟨RX6, "isDay", "(I)Z"⟩
abbrev cX6_posts : ByteArray := prog_8_method_12_code
def yX6_posts : MethodName := ⟨RX6, "posts", "()I"⟩
abbrev cX6_digit : ByteArray := prog_8_method_13_code
def yX6_digit : MethodName := ⟨RX6, "digit", "(III)I"⟩
abbrev cX6_isSign : ByteArray := prog_8_method_14_code
def yX6_isSign : MethodName := ⟨RX6, "isSign", "(II)Z"⟩
abbrev cX6_land : ByteArray := prog_8_method_15_code
def yX6_land : MethodName := ⟨RX6, "land", "(IIII)I"⟩
abbrev cX6_takeLand : ByteArray := prog_8_method_16_code
def yX6_takeLand : MethodName := ⟨RX6, "takeLand", "()V"⟩
abbrev cX6_readLand : ByteArray := prog_8_method_17_code
def yX6_readLand : MethodName := ⟨RX6, "readLand", "(I)Z"⟩
abbrev cX6_readField : ByteArray := prog_8_method_18_code
def yX6_readField : MethodName := ⟨RX6, "readField", "(II)Z"⟩
abbrev cX6_readPost : ByteArray := prog_8_method_19_code
def yX6_readPost : MethodName := ⟨RX6, "readPost", "(II)Z"⟩
abbrev cX6_readTheDays : ByteArray := prog_8_method_20_code
def yX6_readTheDays : MethodName := ⟨RX6, "readTheDays", "(I)Z"⟩
abbrev cX6_ofField : ByteArray := prog_8_method_21_code
def yX6_ofField : MethodName := ⟨RX6, "ofField", "(II)I"⟩
abbrev cX6_ofPost : ByteArray := prog_8_method_22_code
def yX6_ofPost : MethodName := ⟨RX6, "ofPost", "(II)I"⟩
abbrev cX6_letsBy : ByteArray := prog_8_method_23_code
def yX6_letsBy : MethodName := ⟨RX6, "letsBy", "(II)I"⟩
abbrev cX6_lets : ByteArray := prog_8_method_24_code
def yX6_lets : MethodName := ⟨RX6, "lets", "(II)I"⟩
abbrev cX6_limit : ByteArray := prog_8_method_25_code
def yX6_limit : MethodName := ⟨RX6, "limit", "(II)I"⟩
abbrev cX6_rain : ByteArray := prog_8_method_26_code
def yX6_rain : MethodName := ⟨RX6, "rain", "(II)I"⟩
abbrev cX6_begin : ByteArray := prog_8_method_27_code
def yX6_begin : MethodName := ⟨RX6, "begin", "()V"⟩
abbrev cX6_goesOn : ByteArray := prog_8_method_28_code
def yX6_goesOn : MethodName := ⟨RX6, "goesOn", "(III)I"⟩
abbrev cX6_falls : ByteArray := prog_8_method_29_code
def yX6_falls : MethodName := ⟨RX6, "falls", "(III)V"⟩
abbrev cX6_goDay : ByteArray := prog_8_method_30_code
def yX6_goDay : MethodName := ⟨RX6, "goDay", "(III)V"⟩
abbrev cX6_goDays : ByteArray := prog_8_method_31_code
def yX6_goDays : MethodName := ⟨RX6, "goDays", "(II)V"⟩
abbrev cX6_wet : ByteArray := prog_8_method_32_code
def yX6_wet : MethodName := ⟨RX6, "wet", "(II)I"⟩
abbrev cX6_fell : ByteArray := prog_8_method_33_code
def yX6_fell : MethodName := ⟨RX6, "fell", "(II)I"⟩
abbrev cX6_flood : ByteArray := prog_8_method_34_code
def yX6_flood : MethodName := ⟨RX6, "flood", "(I)I"⟩
abbrev cX6_enoughSet : ByteArray := prog_8_method_35_code
def yX6_enoughSet : MethodName := ⟨RX6, "enoughSet", "()I"⟩
abbrev cX6_enough : ByteArray := prog_8_method_36_code
def yX6_enough : MethodName := ⟨RX6, "enough", "()I"⟩
abbrev cX6_plan : ByteArray := prog_8_method_37_code
def yX6_plan : MethodName := ⟨RX6, "plan", "(IIIII)I"⟩
abbrev cX6_tellPlan : ByteArray := prog_8_method_38_code
def yX6_tellPlan : MethodName := ⟨RX6, "tellPlan", "(I)I"⟩
abbrev cX6_size : ByteArray := prog_8_method_39_code
def yX6_size : MethodName := ⟨RX6, "size", "(I)I"⟩
abbrev cX6_papers : ByteArray := prog_8_method_40_code
def yX6_papers : MethodName := ⟨RX6, "papers", "()I"⟩
abbrev cX6_most : ByteArray := prog_8_method_41_code
def yX6_most : MethodName := ⟨RX6, "most", "()I"⟩
abbrev cX6_doesFlood : ByteArray := prog_8_method_42_code
def yX6_doesFlood : MethodName := ⟨RX6, "doesFlood", "(II)Z"⟩
abbrev cX6_shut : ByteArray := prog_8_method_43_code
def yX6_shut : MethodName := ⟨RX6, "shut", "(I)I"⟩
abbrev cX6_reading : ByteArray := prog_8_method_44_code
def yX6_reading : MethodName := ⟨RX6, "reading", "(III)I"⟩
abbrev cX6_back : ByteArray := prog_8_method_45_code
def yX6_back : MethodName := ⟨RX6, "back", "(I)I"⟩
abbrev cX6_areSoBehind : ByteArray := prog_8_method_46_code
def yX6_areSoBehind : MethodName := ⟨RX6, "areSoBehind", "(I)Z"⟩
abbrev cX6_areSo : ByteArray := prog_8_method_47_code
def yX6_areSo : MethodName := ⟨RX6, "areSo", "()Z"⟩
abbrev cX6_limits : ByteArray := prog_8_method_48_code
def yX6_limits : MethodName := ⟨RX6, "limits", "(I)I"⟩
abbrev cX6_kinds : ByteArray := prog_8_method_49_code
def yX6_kinds : MethodName := ⟨RX6, "kinds", "(I)I"⟩
abbrev cX6_rains : ByteArray := prog_8_method_50_code
def yX6_rains : MethodName := ⟨RX6, "rains", "(I)I"⟩
abbrev cX6_inLeastTerms : ByteArray := prog_8_method_51_code
def yX6_inLeastTerms : MethodName := ⟨RX6, "inLeastTerms", "(JJI)J"⟩
abbrev cX6_odds : ByteArray := prog_8_method_52_code
def yX6_odds : MethodName := ⟨RX6, "odds", "(II)J"⟩
abbrev cX6_sheet : ByteArray := prog_8_method_53_code
def yX6_sheet : MethodName := ⟨RX6, "sheet", "(III)I"⟩
abbrev cX6_lose : ByteArray := prog_8_method_54_code
def yX6_lose : MethodName := ⟨RX6, "lose", "(I)I"⟩
abbrev cX6_put : ByteArray := prog_8_method_55_code
def yX6_put : MethodName := ⟨RX6, "put", "(III)I"⟩
abbrev cX6_cell : ByteArray := prog_8_method_56_code
def yX6_cell : MethodName := ⟨RX6, "cell", "(III)J"⟩
abbrev cX6_copy : ByteArray := prog_8_method_57_code
def yX6_copy : MethodName := ⟨RX6, "copy", "(IIIII)I"⟩
abbrev cX6_begins : ByteArray := prog_8_method_58_code
def yX6_begins : MethodName := ⟨RX6, "begins", "(I)V"⟩
abbrev cX6_tell : ByteArray := prog_8_method_59_code
def yX6_tell : MethodName := ⟨RX6, "tell", "(I)I"⟩
abbrev cX6_stamp : ByteArray := prog_8_method_60_code
def yX6_stamp : MethodName := ⟨RX6, "stamp", "(I)I"⟩
abbrev cX6_as : ByteArray := prog_8_method_61_code
def yX6_as : MethodName := ⟨RX6, "as", "(II)I"⟩
abbrev cX6_trace : ByteArray := prog_8_method_62_code
def yX6_trace : MethodName := ⟨RX6, "trace", "()I"⟩
abbrev cX6_fault : ByteArray := prog_8_method_63_code
def yX6_fault : MethodName := ⟨RX6, "fault", "()I"⟩
abbrev cX6_many : ByteArray := prog_8_method_64_code
def yX6_many : MethodName := ⟨RX6, "many", "(I)I"⟩
def RJ6 : String := "java/lang/Integer"
def TJ6 : u_T := fun k => match k with
  | _ => ("", "", "", false)
def tyJ6 : Nat → FieldType := fun k => match k with
  | _ => .int
abbrev wsJ60 : List Cond := u_ws RJ6 TJ6 0
theorem nmJ6 : ∀ a, a < 0 → ∀ b, b < 0 → a ≠ b → (TJ6 a).2.1 ≠ (TJ6 b).2.1 := by decide +kernel
theorem tyJ6_ok : ∀ k, k < 0 → parseFieldDescriptor (TJ6 k).2.2.1 = some (tyJ6 k) := by decide +kernel
abbrev cJ6_bitCount_0f7a4 : ByteArray := prog_9_method_49_code
def yJ6_bitCount_0f7a4 : MethodName := ⟨RJ6, "bitCount", "(I)I"⟩
def RJ9 : String := "java/lang/Math"
def TJ9 : u_T := fun k => match k with
  | _ => ("", "", "", false)
def tyJ9 : Nat → FieldType := fun k => match k with
  | _ => .int
abbrev wsJ90 : List Cond := u_ws RJ9 TJ9 0
theorem nmJ9 : ∀ a, a < 0 → ∀ b, b < 0 → a ≠ b → (TJ9 a).2.1 ≠ (TJ9 b).2.1 := by decide +kernel
theorem tyJ9_ok : ∀ k, k < 0 → parseFieldDescriptor (TJ9 k).2.2.1 = some (tyJ9 k) := by decide +kernel
abbrev cJ9_max_7cf53 : ByteArray := prog_10_method_65_code
def yJ9_max_7cf53 : MethodName := ⟨RJ9, "max", "(II)I"⟩
abbrev cJ9_min_7cf53 : ByteArray := prog_10_method_69_code
def yJ9_min_7cf53 : MethodName := ⟨RJ9, "min", "(II)I"⟩
def RJ10 : String := "java/lang/System"
def TJ10 : u_T := fun k => match k with
  | _ => ("", "", "", false)
def tyJ10 : Nat → FieldType := fun k => match k with
  | _ => .int
abbrev wsJ100 : List Cond := u_ws RJ10 TJ10 0
theorem nmJ10 : ∀ a, a < 0 → ∀ b, b < 0 → a ≠ b → (TJ10 a).2.1 ≠ (TJ10 b).2.1 := by decide +kernel
theorem tyJ10_ok : ∀ k, k < 0 → parseFieldDescriptor (TJ10 k).2.2.1 = some (tyJ10 k) := by decide +kernel
def RJ7 : String := "java/util/Arrays"
def TJ7 : u_T := fun k => match k with
  | _ => ("", "", "", false)
def tyJ7 : Nat → FieldType := fun k => match k with
  | _ => .int
abbrev wsJ70 : List Cond := u_ws RJ7 TJ7 0
theorem nmJ7 : ∀ a, a < 0 → ∀ b, b < 0 → a ≠ b → (TJ7 a).2.1 ≠ (TJ7 b).2.1 := by decide +kernel
theorem tyJ7_ok : ∀ k, k < 0 → parseFieldDescriptor (TJ7 k).2.2.1 = some (tyJ7 k) := by decide +kernel
abbrev cJ7_fill_53178 : ByteArray := prog_12_method_103_code
def yJ7_fill_53178 : MethodName := ⟨RJ7, "fill", "([II)V"⟩
def RL : String := "WeatherPassLaw"
abbrev cL_law : ByteArray := code
def yL_law : MethodName := ⟨RL, "law", "([I)Z"⟩
end
section
/-! The pure machine: values, memory as numbers by cell and slot, one step of an instruction. -/
abbrev pm_V : Type := Int32 ⊕ (Nat ⊕ Int64)
abbrev pm_i (x : Int32) : pm_V := .inl x
abbrev pm_r (k : Nat) : pm_V := .inr (.inl k)
abbrev pm_l (x : Int64) : pm_V := .inr (.inr x)
abbrev pm_M : Type := Nat → Nat → Int32
abbrev pm_L : Type := List (Option pm_V)
abbrev pm_S : Type := Nat ⊕ (List Nat ⊕ (Nat × List (Option Nat)))
abbrev pm_C : Type := Nat × pm_L × List pm_V × pm_M
abbrev pm_O : Type := Option pm_V × pm_M
abbrev pm_A : Type := pm_C ⊕ (pm_O ⊕ ((Nat × List pm_V × pm_C) ⊕ Unit))
abbrev pm_X : Type := Nat × (Nat → Int32)
def pm_up (M : pm_M) (k j : Nat) (v : Int32) : pm_M := fun a b => if a = k ∧ b = j then v else M a b
def pm_cp (M : pm_M) (k0 sp k1 dp n : Nat) : pm_M := fun a => if a = k1 then va_cpy (M k0) (M k1) sp dp n else M a
def pm_bad : pm_A := .inr (.inr (.inr ()))
/-- the shapes of the cells -/
def pm_shl : List pm_S := [
  .inr (.inr (4, [some 1, some 2, some 3, some 4, some 5, none, none])),
  .inr (.inr (2, [some 6, some 11, some 12])),
  .inr (.inr (0, [none, none, some 13, some 14, some 15, some 16, some 17])),
  .inr (.inr (3, [some 21, some 22, none, none, none, none])),
  .inr (.inr (1, [none, some 18, some 19, some 20])),
  .inl 60, .inr (.inl [7, 8, 9, 10]), .inl 60, .inl 60, .inl 60, .inl 60, .inl 4, .inl 4,
  .inl 6, .inl 6, .inl 5, .inl 5, .inl 8, .inl 8, .inl 8, .inl 8, .inl 6, .inl 6,
  .inr (.inr (5, [none, none, some 24, some 25, some 26, none, none, some 27, some 28, some 29, some 30, some 31, none, none, none, some 32, some 33, some 34, some 35, some 36, some 37, some 38, none, none, none, none, none, some 39, some 40, some 41])),
  .inl 4, .inl 4, .inl 240, .inl 6, .inl 6, .inl 5, .inl 5, .inl 8, .inl 6, .inl 6, .inl 5, .inl 5, .inl 8, .inl 6, .inl 6, .inl 8, .inl 8, .inl 8]
def pm_sh (k : Nat) : Option pm_S := pm_shl[k]?
def pm_in (i : Int32) (n : Nat) : Bool := decide (0 ≤ i.toInt) && decide (i.toInt < n)
def pm_ald (X : pm_X) (k : Nat) (i : Int32) (M : pm_M) : Option Int32 :=
  if k = 99 then (if pm_in i (X.1 - 1) = true then some (X.2 i.toNatClampNeg) else none)
  else match pm_sh k with
    | some (.inl n) => if pm_in i n = true then some (M k i.toNatClampNeg) else none
    | _ => none
def pm_ast (k : Nat) (i v : Int32) (M : pm_M) : Option pm_M := match pm_sh k with
  | some (.inl n) => if pm_in i n = true then some (pm_up M k i.toNatClampNeg v) else none
  | _ => none
def pm_aald (k : Nat) (i : Int32) : Option Nat := match pm_sh k with
  | some (.inr (.inl ks)) => if pm_in i ks.length = true then ks[i.toNatClampNeg]? else none
  | _ => none
def pm_aln (X : pm_X) (k : Nat) : Option Int32 :=
  if k = 99 then (if X.1 = 0 then none else some (Int32.ofNat (X.1 - 1)))
  else match pm_sh k with
    | some (.inl n) => some (Int32.ofNat n)
    | _ => none
def pm_gf (ci j k : Nat) (M : pm_M) : Option pm_V := match pm_sh k with
  | some (.inr (.inr (c, fl))) => if c = ci then (match fl[j]? with
    | some (some q) => some (pm_r q)
    | some none => some (pm_i (M k j))
    | none => none) else none
  | _ => none
def pm_pf (ci j k : Nat) (v : Int32) (M : pm_M) : Option pm_M := match pm_sh k with
  | some (.inr (.inr (c, fl))) => if c = ci then (match fl[j]? with
    | some none => some (pm_up M k j v)
    | _ => none) else none
  | _ => none
def pm_acp (k0 : Nat) (sp : Int32) (k1 : Nat) (dp n : Int32) (M : pm_M) : Option pm_M := match pm_sh k0, pm_sh k1 with
  | some (.inl n0), some (.inl n1) => if ¬ sp < 0 ∧ ¬ dp < 0 ∧ ¬ n < 0 ∧ sp.toNatClampNeg + n.toNatClampNeg ≤ n0 ∧ dp.toNatClampNeg + n.toNatClampNeg ≤ n1 then some (pm_cp M k0 sp.toNatClampNeg k1 dp.toNatClampNeg n.toNatClampNeg) else none
  | _, _ => none
/-- the class of the object in a cell -/
def pm_cl (k : Nat) : Option Nat := match pm_sh k with
  | some (.inr (.inr (c, _))) => some c
  | _ => none
def pm_nlz (o : Option pm_V) : Option pm_V := match o with
  | some (.inl x) => some (.inl x)
  | some (.inr (.inl k)) => some (.inr (.inl k))
  | _ => none
def pm_set : pm_L → Nat → pm_V → pm_L
  | [], _, _ => []
  | _ :: t, 0, v => some v :: t
  | o :: t, 1, v => pm_nlz o :: (match t with
    | [] => []
    | _ :: t2 => some v :: t2)
  | o :: t, k + 2, v => o :: pm_set t (k + 1) v
def pm_setL : pm_L → Nat → Int64 → pm_L
  | [], _, _ => []
  | _ :: t, 0, v => some (.inr (.inr v)) :: (match t with
    | [] => []
    | _ :: t2 => none :: t2)
  | o :: t, 1, v => pm_nlz o :: (match t with
    | [] => []
    | _ :: t2 => some (.inr (.inr v)) :: (match t2 with
      | [] => []
      | _ :: t3 => none :: t3))
  | o :: t, k + 2, v => o :: pm_setL t (k + 1) v
def pm_get (ls : pm_L) (k : Nat) : Option pm_V := match ls[k]? with
  | some (some v) => some v
  | _ => none
def pm_args : List pm_V → pm_L
  | [] => []
  | .inl x :: t => some (.inl x) :: pm_args t
  | .inr (.inl k) :: t => some (.inr (.inl k)) :: pm_args t
  | .inr (.inr z) :: t => some (.inr (.inr z)) :: none :: pm_args t
def pm_ent (vs : List pm_V) (n : Nat) : pm_L := pm_args vs ++ List.replicate (n - (pm_args vs).length) none
def pm_ldi (pc : Nat) (ls : pm_L) (k : Nat) (st : List pm_V) (M : pm_M) : pm_A := match pm_get ls k with
  | some (.inl x) => .inl (pc, ls, .inl x :: st, M)
  | _ => pm_bad
def pm_lda (pc : Nat) (ls : pm_L) (k : Nat) (st : List pm_V) (M : pm_M) : pm_A := match pm_get ls k with
  | some (.inr (.inl x)) => .inl (pc, ls, .inr (.inl x) :: st, M)
  | _ => pm_bad
def pm_ldl (pc : Nat) (ls : pm_L) (k : Nat) (st : List pm_V) (M : pm_M) : pm_A := match pm_get ls k with
  | some (.inr (.inr x)) => .inl (pc, ls, .inr (.inr x) :: st, M)
  | _ => pm_bad
def pm_sti (pc : Nat) (ls : pm_L) (k : Nat) (st : List pm_V) (M : pm_M) : pm_A := match st with
  | .inl x :: r => .inl (pc, pm_set ls k (.inl x), r, M)
  | _ => pm_bad
def pm_stl (pc : Nat) (ls : pm_L) (k : Nat) (st : List pm_V) (M : pm_M) : pm_A := match st with
  | .inr (.inr x) :: r => .inl (pc, pm_setL ls k x, r, M)
  | _ => pm_bad
def pm_bin (pc : Nat) (ls : pm_L) (st : List pm_V) (M : pm_M) (f : Int32 → Int32 → Int32) : pm_A := match st with
  | .inl b :: .inl a :: r => .inl (pc, ls, .inl (f a b) :: r, M)
  | _ => pm_bad
def pm_un (pc : Nat) (ls : pm_L) (st : List pm_V) (M : pm_M) (f : Int32 → pm_V) : pm_A := match st with
  | .inl a :: r => .inl (pc, ls, f a :: r, M)
  | _ => pm_bad
def pm_ifc (pc t : Nat) (ls : pm_L) (st : List pm_V) (M : pm_M) (f : Int32 → Bool) : pm_A := match st with
  | .inl a :: r => if f a = true then .inl (t, ls, r, M) else .inl (pc + 3, ls, r, M)
  | _ => pm_bad
def pm_icm (pc t : Nat) (ls : pm_L) (st : List pm_V) (M : pm_M) (f : Int32 → Int32 → Bool) : pm_A := match st with
  | .inl b :: .inl a :: r => if f a b = true then .inl (t, ls, r, M) else .inl (pc + 3, ls, r, M)
  | _ => pm_bad
def pm_jt (pc : Nat) (off : Int) : Nat := ((pc : Int) + off).toNat
def pm_stp (X : pm_X) (rb : Bool) (pc : Nat) (i : Instr) (ax : List Nat) (ls : pm_L) (st : List pm_V) (M : pm_M) : pm_A := match i with
  | .iload_n k => pm_ldi (pc + 1) ls k st M
  | .iload k => pm_ldi (pc + 2) ls k st M
  | .aload_n k => pm_lda (pc + 1) ls k st M
  | .aload k => pm_lda (pc + 2) ls k st M
  | .lload_n k => pm_ldl (pc + 1) ls k st M
  | .lload k => pm_ldl (pc + 2) ls k st M
  | .istore_n k => pm_sti (pc + 1) ls k st M
  | .istore k => pm_sti (pc + 2) ls k st M
  | .lstore k => pm_stl (pc + 2) ls k st M
  | .iinc k n => (match pm_get ls k with
    | some (.inl x) => .inl (pc + 3, pm_set ls k (.inl (x + Int32.ofInt n)), st, M)
    | _ => pm_bad)
  | .iconst n => .inl (pc + 1, ls, .inl (Int32.ofInt n) :: st, M)
  | .bipush n => .inl (pc + 2, ls, .inl (Int8.ofInt n).toInt32 :: st, M)
  | .sipush n => .inl (pc + 3, ls, .inl (Int16.ofInt n).toInt32 :: st, M)
  | .lconst n => .inl (pc + 1, ls, .inr (.inr (Int64.ofNat n)) :: st, M)
  | .ldc_w _ => (match ax with
    | [_, v] => .inl (pc + 3, ls, .inl (Int32.ofNat v) :: st, M)
    | _ => pm_bad)
  | .ldc2_w _ => (match ax with
    | [_, v] => .inl (pc + 3, ls, .inr (.inr (Int64.ofNat v)) :: st, M)
    | _ => pm_bad)
  | .dup => (match st with
    | .inl a :: r => .inl (pc + 1, ls, .inl a :: .inl a :: r, M)
    | .inr (.inl a) :: r => .inl (pc + 1, ls, .inr (.inl a) :: .inr (.inl a) :: r, M)
    | _ => pm_bad)
  | .dup2 => (match st with
    | .inl b :: .inr (.inl a) :: r => .inl (pc + 1, ls, .inl b :: .inr (.inl a) :: .inl b :: .inr (.inl a) :: r, M)
    | _ => pm_bad)
  | .iadd => pm_bin (pc + 1) ls st M (fun a b => a + b)
  | .isub => pm_bin (pc + 1) ls st M (fun a b => a - b)
  | .imul => pm_bin (pc + 1) ls st M (fun a b => a * b)
  | .iand => pm_bin (pc + 1) ls st M (fun a b => a &&& b)
  | .ior => pm_bin (pc + 1) ls st M (fun a b => a ||| b)
  | .ishl => pm_bin (pc + 1) ls st M (fun a b => a <<< (b &&& 31))
  | .ishr => pm_bin (pc + 1) ls st M (fun a b => a >>> (b &&& 31))
  | .iushr => pm_bin (pc + 1) ls st M (fun a b => (a.toUInt32 >>> (b.toUInt32 &&& Int32.toUInt32 31)).toInt32)
  | .irem => (match st with
    | .inl b :: .inl a :: r => if b = 0 then pm_bad else .inl (pc + 1, ls, .inl (a - a / b * b) :: r, M)
    | _ => pm_bad)
  | .i2l => pm_un (pc + 1) ls st M (fun a => .inr (.inr a.toInt64))
  | .i2b => pm_un (pc + 1) ls st M (fun a => .inl a.toInt8.toInt32)
  | .i2s => pm_un (pc + 1) ls st M (fun a => .inl a.toInt16.toInt32)
  | .lcmp => (match st with
    | .inr (.inr b) :: .inr (.inr a) :: r => .inl (pc + 1, ls, .inl (lg_cmp a b) :: r, M)
    | _ => pm_bad)
  | .ldiv => (match st with
    | .inr (.inr b) :: .inr (.inr a) :: r => if b = 0 then pm_bad else .inl (pc + 1, ls, .inr (.inr (a / b)) :: r, M)
    | _ => pm_bad)
  | .lrem => (match st with
    | .inr (.inr b) :: .inr (.inr a) :: r => if b = 0 then pm_bad else .inl (pc + 1, ls, .inr (.inr (a - a / b * b)) :: r, M)
    | _ => pm_bad)
  | .lshl => (match st with
    | .inl b :: .inr (.inr a) :: r => .inl (pc + 1, ls, .inr (.inr (a <<< (b.toInt64 &&& 63))) :: r, M)
    | _ => pm_bad)
  | .ifCond .eq off => pm_ifc pc (pm_jt pc off) ls st M (fun a => decide (a = 0))
  | .ifCond .ne off => pm_ifc pc (pm_jt pc off) ls st M (fun a => !decide (a = 0))
  | .ifCond .lt off => pm_ifc pc (pm_jt pc off) ls st M (fun a => decide (a < 0))
  | .ifCond .ge off => pm_ifc pc (pm_jt pc off) ls st M (fun a => decide (0 ≤ a))
  | .ifCond .gt off => pm_ifc pc (pm_jt pc off) ls st M (fun a => decide (0 < a))
  | .ifCond .le off => pm_ifc pc (pm_jt pc off) ls st M (fun a => decide (a ≤ 0))
  | .if_icmp .eq off => pm_icm pc (pm_jt pc off) ls st M (fun a b => decide (a = b))
  | .if_icmp .ne off => pm_icm pc (pm_jt pc off) ls st M (fun a b => !decide (a = b))
  | .if_icmp .lt off => pm_icm pc (pm_jt pc off) ls st M (fun a b => decide (a < b))
  | .if_icmp .ge off => pm_icm pc (pm_jt pc off) ls st M (fun a b => decide (b ≤ a))
  | .if_icmp .gt off => pm_icm pc (pm_jt pc off) ls st M (fun a b => decide (b < a))
  | .if_icmp .le off => pm_icm pc (pm_jt pc off) ls st M (fun a b => decide (a ≤ b))
  | .goto off => .inl (pm_jt pc off, ls, st, M)
  | .tableswitch d lo hi offs => (match st with
    | .inl x :: r => if x.toInt < lo ∨ hi < x.toInt then .inl (pm_jt pc d, ls, r, M) else (match offs[(x.toInt - lo).toNat]? with
      | some o => .inl (pm_jt pc o, ls, r, M)
      | none => pm_bad)
    | _ => pm_bad)
  | .lookupswitch d ps => (match st with
    | .inl x :: r => .inl (pm_jt pc (Op.lookupswitch.offset ps.toList d x.toInt), ls, r, M)
    | _ => pm_bad)
  | .getfield _ => (match st, ax with
    | .inr (.inl k) :: r, [ci, j, _, _] => (match pm_gf ci j k M with
      | some v => .inl (pc + 3, ls, v :: r, M)
      | none => pm_bad)
    | _, _ => pm_bad)
  | .putfield _ => (match st, ax with
    | .inl v :: .inr (.inl k) :: r, [ci, j, _, _] => (match pm_pf ci j k v M with
      | some M2 => .inl (pc + 3, ls, r, M2)
      | none => pm_bad)
    | _, _ => pm_bad)
  | .iaload => (match st with
    | .inl x :: .inr (.inl k) :: r => (match pm_ald X k x M with
      | some v => .inl (pc + 1, ls, .inl v :: r, M)
      | none => pm_bad)
    | _ => pm_bad)
  | .iastore => (match st with
    | .inl v :: .inl x :: .inr (.inl k) :: r => (match pm_ast k x v M with
      | some M2 => .inl (pc + 1, ls, r, M2)
      | none => pm_bad)
    | _ => pm_bad)
  | .aaload => (match st with
    | .inl x :: .inr (.inl k) :: r => (match pm_aald k x with
      | some q => .inl (pc + 1, ls, .inr (.inl q) :: r, M)
      | none => pm_bad)
    | _ => pm_bad)
  | .arraylength => (match st with
    | .inr (.inl k) :: r => (match pm_aln X k with
      | some v => .inl (pc + 1, ls, .inl v :: r, M)
      | none => pm_bad)
    | _ => pm_bad)
  | .invokevirtual _ => (match ax with
    | [y2, n, _, _, ci] => (match st.drop n with
      | .inr (.inl k) :: r => if pm_cl k = some ci ∧ r.length ≤ 4 ∧ n < st.length then .inr (.inr (.inl (y2, .inr (.inl k) :: (st.take n).reverse, (pc + 3, ls, r, M)))) else pm_bad
      | _ => pm_bad)
    | _ => pm_bad)
  | .invokestatic _ => (match ax with
    | [y2, n, _, _] => if n ≤ st.length ∧ (st.drop n).length ≤ 4 then .inr (.inr (.inl (y2, (st.take n).reverse, (pc + 3, ls, st.drop n, M)))) else pm_bad
    | [_] => (match st with
      | .inl n :: .inl dp :: .inr (.inl k1) :: .inl sp :: .inr (.inl k0) :: r => if r.length ≤ 2 then (match pm_acp k0 sp k1 dp n M with
        | some M2 => .inl (pc + 3, ls, r, M2)
        | none => pm_bad) else pm_bad
      | _ => pm_bad)
    | [_, w, _] => (match st with
      | .inl b :: .inl a :: r => if r.length ≤ 4 then .inl (pc + 3, ls, .inl (if w = 0 then (if a < b then b else a) else (if b < a then b else a)) :: r, M) else pm_bad
      | _ => pm_bad)
    | _ => pm_bad)
  | .ireturn => (match st with
    | [.inl v] => if rb = true ∧ ¬ (v = 0 ∨ v = 1) then pm_bad else .inr (.inl (some (.inl v), M))
    | _ => pm_bad)
  | .lreturn => (match st with
    | [.inr (.inr v)] => .inr (.inl (some (.inr (.inr v)), M))
    | _ => pm_bad)
  | .return_ => (match st with
    | [] => .inr (.inl (none, M))
    | _ => pm_bad)
  | _ => pm_bad
def pm_find : List (Nat × Instr × Nat × List Nat) → Nat → Option (Instr × Nat × List Nat)
  | [], _ => none
  | r :: t, pc => if r.1 = pc then some r.2 else pm_find t pc
def pm_psh (v : Option pm_V) (st : List pm_V) : List pm_V := match v with
  | some v => v :: st
  | none => st
end
section
def pm_w_0 : List (Nat × Instr × Nat × List Nat) := [(0, .aload_n 0, 1, []), (1, .aload_n 1, 1, []), (2, .iconst 1, 1, []), (3, .iaload, 1, []), (4, .invokestatic 44, 3, [22, 1, 1, 277]), (7, .putfield 27, 3, [0, 0, 0, 111]), (10, .iconst 0, 1, []), (11, .istore_n 3, 1, []), (12, .iload_n 3, 1, []), (13, .aload_n 0, 1, []), (14, .getfield 27, 3, [0, 0, 0, 111]), (17, .if_icmp .ge 46, 3, []), (20, .iconst 2, 1, []), (21, .iconst 3, 1, []), (22, .iload_n 3, 1, []), (23, .imul, 1, []), (24, .iadd, 1, []), (25, .istore 4, 2, []), (27, .aload_n 0, 1, []), (28, .getfield 9, 3, [0, 2, 0, 116]), (31, .iload_n 3, 1, []), (32, .aload_n 1, 1, []), (33, .iload 4, 2, []), (35, .iconst 1, 1, []), (36, .iadd, 1, []), (37, .iaload, 1, []), (38, .invokestatic 44, 3, [22, 1, 1, 277]), (41, .iastore, 1, []), (42, .aload_n 0, 1, []), (43, .getfield 15, 3, [0, 3, 0, 119]), (46, .iload_n 3, 1, []), (47, .aload_n 1, 1, []), (48, .iload 4, 2, []), (50, .iconst 2, 1, []), (51, .iadd, 1, []), (52, .iaload, 1, []), (53, .invokestatic 44, 3, [22, 1, 1, 277]), (56, .iastore, 1, []), (57, .iinc 3 1, 3, []), (60, .goto (-48), 3, []), (63, .iconst 0, 1, []), (64, .istore_n 3, 1, []), (65, .iload_n 3, 1, []), (66, .aload_n 0, 1, []), (67, .invokevirtual 37, 3, [1, 0, 0, 278, 0]), (70, .if_icmp .ge 52, 3, []), (73, .aload_n 0, 1, []), (74, .getfield 27, 3, [0, 0, 0, 111]), (77, .invokestatic 50, 3, [23, 1, 1, 285]), (80, .iconst 3, 1, []), (81, .iload_n 3, 1, []), (82, .imul, 1, []), (83, .iadd, 1, []), (84, .istore 4, 2, []), (86, .aload_n 0, 1, []), (87, .getfield 18, 3, [0, 4, 0, 122]), (90, .iload_n 3, 1, []), (91, .aload_n 1, 1, []), (92, .iload 4, 2, []), (94, .iconst 1, 1, []), (95, .iadd, 1, []), (96, .iaload, 1, []), (97, .invokestatic 53, 3, [26, 1, 1, 286]), (100, .iastore, 1, []), (101, .aload_n 0, 1, []), (102, .getfield 21, 3, [0, 5, 0, 124]), (105, .iload_n 3, 1, []), (106, .aload_n 1, 1, []), (107, .iload 4, 2, []), (109, .iconst 2, 1, []), (110, .iadd, 1, []), (111, .iaload, 1, []), (112, .invokestatic 44, 3, [22, 1, 1, 277]), (115, .iastore, 1, []), (116, .iinc 3 1, 3, []), (119, .goto (-54), 3, []), (122, .aload_n 0, 1, []), (123, .getfield 27, 3, [0, 0, 0, 111]), (126, .invokestatic 56, 3, [24, 1, 1, 287]), (129, .istore_n 3, 1, []), (130, .aload_n 0, 1, []), (131, .iload_n 2, 1, []), (132, .iload_n 3, 1, []), (133, .isub, 1, []), (134, .putfield 41, 3, [0, 1, 0, 114]), (137, .iconst 0, 1, []), (138, .istore 4, 2, []), (140, .iload 4, 2, []), (142, .aload_n 0, 1, []), (143, .getfield 41, 3, [0, 1, 0, 114]), (146, .if_icmp .ge 25, 3, []), (149, .aload_n 0, 1, []), (150, .getfield 24, 3, [0, 6, 0, 126]), (153, .iload 4, 2, []), (155, .aload_n 1, 1, []), (156, .iload_n 3, 1, []), (157, .iload 4, 2, []), (159, .iadd, 1, []), (160, .iaload, 1, []), (161, .invokestatic 44, 3, [22, 1, 1, 277]), (164, .iastore, 1, []), (165, .iinc 4 1, 3, []), (168, .goto (-28), 3, []), (171, .return_, 1, [])]
def pm_w_1 : List (Nat × Instr × Nat × List Nat) := [(0, .iconst 0, 1, []), (1, .aload_n 0, 1, []), (2, .getfield 27, 3, [0, 0, 0, 111]), (5, .iconst 1, 1, []), (6, .isub, 1, []), (7, .invokestatic 31, 3, [282, 0, 0]), (10, .ireturn, 1, [])]
def pm_w_2 : List (Nat × Instr × Nat × List Nat) := [(0, .iload_n 1, 1, []), (1, .ifCond .lt 15, 3, []), (4, .iload_n 1, 1, []), (5, .aload_n 0, 1, []), (6, .getfield 27, 3, [0, 0, 0, 111]), (9, .if_icmp .ge 7, 3, []), (12, .iconst 1, 1, []), (13, .goto 4, 3, []), (16, .iconst 0, 1, []), (17, .ireturn, 1, [])]
def pm_w_3 : List (Nat × Instr × Nat × List Nat) := [(0, .iload_n 1, 1, []), (1, .ifCond .lt 15, 3, []), (4, .iload_n 1, 1, []), (5, .aload_n 0, 1, []), (6, .invokevirtual 37, 3, [1, 0, 0, 278, 0]), (9, .if_icmp .ge 7, 3, []), (12, .iconst 1, 1, []), (13, .goto 4, 3, []), (16, .iconst 0, 1, []), (17, .ireturn, 1, [])]
def pm_w_4 : List (Nat × Instr × Nat × List Nat) := [(0, .aload_n 0, 1, []), (1, .getfield 21, 3, [0, 5, 0, 124]), (4, .iload_n 1, 1, []), (5, .iaload, 1, []), (6, .iload_n 2, 1, []), (7, .invokestatic 59, 3, [313, 1, 0]), (10, .istore_n 3, 1, []), (11, .aload_n 0, 1, []), (12, .getfield 18, 3, [0, 4, 0, 122]), (15, .iload_n 1, 1, []), (16, .iaload, 1, []), (17, .lookupswitch 43 #[(1, 27), (2, 35)], 27, []), (44, .iconst 0, 1, []), (45, .iload_n 3, 1, []), (46, .iconst 1, 1, []), (47, .isub, 1, []), (48, .invokestatic 31, 3, [282, 0, 0]), (51, .ireturn, 1, []), (52, .iconst 2, 1, []), (53, .iload_n 3, 1, []), (54, .imul, 1, []), (55, .iload_n 2, 1, []), (56, .invokestatic 59, 3, [313, 1, 0]), (59, .ireturn, 1, []), (60, .iload_n 3, 1, []), (61, .ireturn, 1, [])]
def pm_w_5 : List (Nat × Instr × Nat × List Nat) := [(0, .aload_n 0, 1, []), (1, .getfield 27, 3, [0, 0, 0, 111]), (4, .ifCond .le 7, 3, []), (7, .iconst 1, 1, []), (8, .goto 4, 3, []), (11, .iconst 0, 1, []), (12, .ireturn, 1, [])]
def pm_w_6 : List (Nat × Instr × Nat × List Nat) := [(0, .iload_n 1, 1, []), (1, .ifCond .lt 15, 3, []), (4, .iload_n 1, 1, []), (5, .aload_n 0, 1, []), (6, .getfield 41, 3, [0, 1, 0, 114]), (9, .if_icmp .ge 7, 3, []), (12, .iconst 1, 1, []), (13, .goto 4, 3, []), (16, .iconst 0, 1, []), (17, .ireturn, 1, [])]
def pm_w_7 : List (Nat × Instr × Nat × List Nat) := [(0, .iload_n 1, 1, []), (1, .ifCond .lt 15, 3, []), (4, .iload_n 1, 1, []), (5, .aload_n 0, 1, []), (6, .getfield 41, 3, [0, 1, 0, 114]), (9, .if_icmp .gt 7, 3, []), (12, .iconst 1, 1, []), (13, .goto 4, 3, []), (16, .iconst 0, 1, []), (17, .ireturn, 1, [])]
def pm_w_8 : List (Nat × Instr × Nat × List Nat) := [(0, .aload_n 0, 1, []), (1, .iload_n 1, 1, []), (2, .invokevirtual 62, 3, [3, 1, 0, 358, 0]), (5, .ifCond .eq 12, 3, []), (8, .iload 4, 2, []), (10, .iload_n 1, 1, []), (11, .invokestatic 66, 3, [42, 2, 1, 359]), (14, .ifCond .eq 5, 3, []), (17, .iconst 0, 1, []), (18, .ireturn, 1, []), (19, .iload_n 3, 1, []), (20, .iload_n 1, 1, []), (21, .invokestatic 66, 3, [42, 2, 1, 359]), (24, .ifCond .eq 7, 3, []), (27, .iload_n 2, 1, []), (28, .goto 9, 3, []), (31, .aload_n 0, 1, []), (32, .iload_n 1, 1, []), (33, .iload_n 2, 1, []), (34, .invokevirtual 70, 3, [4, 2, 0, 362, 0]), (37, .ireturn, 1, [])]
def pm_w_9 : List (Nat × Instr × Nat × List Nat) := [(0, .iconst 1, 1, []), (1, .aload_n 0, 1, []), (2, .invokevirtual 37, 3, [1, 0, 0, 278, 0]), (5, .ishl, 1, []), (6, .ireturn, 1, [])]
def pm_w_10 : List (Nat × Instr × Nat × List Nat) := [(0, .aload_n 0, 1, []), (1, .getfield 21, 3, [1, 0, 0, 180]), (4, .istore 4, 2, []), (6, .aload_n 0, 1, []), (7, .getfield 9, 3, [1, 1, 0, 182]), (10, .iload 4, 2, []), (12, .iload_n 1, 1, []), (13, .iastore, 1, []), (14, .aload_n 0, 1, []), (15, .getfield 15, 3, [1, 2, 0, 183]), (18, .iload 4, 2, []), (20, .iload_n 2, 1, []), (21, .iastore, 1, []), (22, .aload_n 0, 1, []), (23, .getfield 18, 3, [1, 3, 0, 184]), (26, .iload 4, 2, []), (28, .iload_n 3, 1, []), (29, .iastore, 1, []), (30, .aload_n 0, 1, []), (31, .dup, 1, []), (32, .getfield 21, 3, [1, 0, 0, 180]), (35, .iconst 1, 1, []), (36, .iadd, 1, []), (37, .putfield 21, 3, [1, 0, 0, 180]), (40, .iload 4, 2, []), (42, .ireturn, 1, [])]
def pm_w_11 : List (Nat × Instr × Nat × List Nat) := [(0, .iconst 0, 1, []), (1, .istore_n 3, 1, []), (2, .iload_n 3, 1, []), (3, .aload_n 0, 1, []), (4, .getfield 21, 3, [1, 0, 0, 180]), (7, .if_icmp .ge 38, 3, []), (10, .aload_n 0, 1, []), (11, .getfield 15, 3, [1, 2, 0, 183]), (14, .iload_n 3, 1, []), (15, .iaload, 1, []), (16, .iload_n 1, 1, []), (17, .if_icmp .ne 22, 3, []), (20, .aload_n 2, 1, []), (21, .aload_n 0, 1, []), (22, .getfield 9, 3, [1, 1, 0, 182]), (25, .iload_n 3, 1, []), (26, .iaload, 1, []), (27, .iaload, 1, []), (28, .aload_n 0, 1, []), (29, .getfield 18, 3, [1, 3, 0, 184]), (32, .iload_n 3, 1, []), (33, .iaload, 1, []), (34, .if_icmp .eq 5, 3, []), (37, .iconst 0, 1, []), (38, .ireturn, 1, []), (39, .iinc 3 1, 3, []), (42, .goto (-40), 3, []), (45, .iconst 1, 1, []), (46, .ireturn, 1, [])]
def pm_w_12 : List (Nat × Instr × Nat × List Nat) := [(0, .aload_n 0, 1, []), (1, .iload_n 1, 1, []), (2, .iload_n 2, 1, []), (3, .invokevirtual 39, 3, [13, 2, 0, 230, 2]), (6, .istore 5, 2, []), (8, .iload 5, 2, []), (10, .ifCond .eq 6, 3, []), (13, .iload 5, 2, []), (15, .ireturn, 1, []), (16, .iload 4, 2, []), (18, .ifCond .ge 5, 3, []), (21, .iconst 4, 1, []), (22, .ireturn, 1, []), (23, .aload_n 0, 1, []), (24, .iload_n 1, 1, []), (25, .iload_n 3, 1, []), (26, .iload 4, 2, []), (28, .invokevirtual 43, 3, [15, 3, 0, 238, 2]), (31, .ifCond .eq 7, 3, []), (34, .iconst 0, 1, []), (35, .goto 4, 3, []), (38, .iconst 3, 1, []), (39, .ireturn, 1, [])]
def pm_w_13 : List (Nat × Instr × Nat × List Nat) := [(0, .aload_n 0, 1, []), (1, .iload_n 1, 1, []), (2, .invokevirtual 35, 3, [14, 1, 0, 234, 2]), (5, .ifCond .eq 5, 3, []), (8, .iconst 1, 1, []), (9, .ireturn, 1, []), (10, .aload_n 0, 1, []), (11, .getfield 16, 3, [2, 1, 0, 94]), (14, .iload_n 1, 1, []), (15, .iaload, 1, []), (16, .iload_n 2, 1, []), (17, .if_icmp .ne 7, 3, []), (20, .iconst 0, 1, []), (21, .goto 4, 3, []), (24, .iconst 2, 1, []), (25, .ireturn, 1, [])]
def pm_w_14 : List (Nat × Instr × Nat × List Nat) := [(0, .aload_n 0, 1, []), (1, .getfield 16, 3, [2, 1, 0, 94]), (4, .iload_n 1, 1, []), (5, .iaload, 1, []), (6, .iconst (-1), 1, []), (7, .if_icmp .ne 7, 3, []), (10, .iconst 1, 1, []), (11, .goto 4, 3, []), (14, .iconst 0, 1, []), (15, .ireturn, 1, [])]
def pm_w_15 : List (Nat × Instr × Nat × List Nat) := [(0, .iload_n 2, 1, []), (1, .ifCond .lt 33, 3, []), (4, .iload_n 2, 1, []), (5, .aload_n 0, 1, []), (6, .getfield 20, 3, [2, 2, 0, 96]), (9, .iload_n 1, 1, []), (10, .iaload, 1, []), (11, .if_icmp .gt 23, 3, []), (14, .iload_n 3, 1, []), (15, .ifCond .lt 19, 3, []), (18, .iload_n 3, 1, []), (19, .aload_n 0, 1, []), (20, .getfield 20, 3, [2, 2, 0, 96]), (23, .iload_n 1, 1, []), (24, .iaload, 1, []), (25, .iload_n 2, 1, []), (26, .isub, 1, []), (27, .if_icmp .gt 7, 3, []), (30, .iconst 1, 1, []), (31, .goto 4, 3, []), (34, .iconst 0, 1, []), (35, .ireturn, 1, [])]
def pm_w_16 : List (Nat × Instr × Nat × List Nat) := [(0, .aload_n 0, 1, []), (1, .getfield 11, 3, [2, 0, 0, 92]), (4, .iload_n 1, 1, []), (5, .aaload, 1, []), (6, .iload_n 2, 1, []), (7, .aload 4, 2, []), (9, .iconst 0, 1, []), (10, .iload_n 3, 1, []), (11, .invokestatic 29, 3, [246]), (14, .return_, 1, [])]
def pm_w_17 : List (Nat × Instr × Nat × List Nat) := [(0, .aload_n 0, 1, []), (1, .getfield 16, 3, [2, 1, 0, 94]), (4, .iload_n 1, 1, []), (5, .iload_n 2, 1, []), (6, .iastore, 1, []), (7, .aload_n 0, 1, []), (8, .getfield 20, 3, [2, 2, 0, 96]), (11, .iload_n 1, 1, []), (12, .iload_n 3, 1, []), (13, .iastore, 1, []), (14, .aload_n 0, 1, []), (15, .getfield 11, 3, [2, 0, 0, 92]), (18, .iload_n 1, 1, []), (19, .aaload, 1, []), (20, .iconst 0, 1, []), (21, .invokestatic 23, 3, [142, 2, 0, 89]), (24, .return_, 1, [])]
def pm_w_18 : List (Nat × Instr × Nat × List Nat) := [(0, .iload_n 2, 1, []), (1, .ifCond .lt 17, 3, []), (4, .iload_n 2, 1, []), (5, .aload_n 0, 1, []), (6, .getfield 20, 3, [2, 2, 0, 96]), (9, .iload_n 1, 1, []), (10, .iaload, 1, []), (11, .if_icmp .ge 7, 3, []), (14, .iconst 1, 1, []), (15, .goto 4, 3, []), (18, .iconst 0, 1, []), (19, .ireturn, 1, [])]
def pm_w_19 : List (Nat × Instr × Nat × List Nat) := [(0, .aload_n 0, 1, []), (1, .getfield 16, 3, [2, 1, 0, 94]), (4, .iload_n 1, 1, []), (5, .iaload, 1, []), (6, .lookupswitch 52 #[(0, 26), (1, 39)], 26, []), (32, .aload_n 0, 1, []), (33, .getfield 11, 3, [2, 0, 0, 92]), (36, .iload_n 1, 1, []), (37, .aaload, 1, []), (38, .iload_n 2, 1, []), (39, .iload_n 3, 1, []), (40, .i2b, 1, []), (41, .iastore, 1, []), (42, .goto 25, 3, []), (45, .aload_n 0, 1, []), (46, .getfield 11, 3, [2, 0, 0, 92]), (49, .iload_n 1, 1, []), (50, .aaload, 1, []), (51, .iload_n 2, 1, []), (52, .iload_n 3, 1, []), (53, .i2s, 1, []), (54, .iastore, 1, []), (55, .goto 12, 3, []), (58, .aload_n 0, 1, []), (59, .getfield 11, 3, [2, 0, 0, 92]), (62, .iload_n 1, 1, []), (63, .aaload, 1, []), (64, .iload_n 2, 1, []), (65, .iload_n 3, 1, []), (66, .iastore, 1, []), (67, .return_, 1, [])]
def pm_w_20 : List (Nat × Instr × Nat × List Nat) := [(0, .iconst 0, 1, []), (1, .istore_n 2, 1, []), (2, .iload_n 2, 1, []), (3, .iload_n 1, 1, []), (4, .if_icmp .ge 19, 3, []), (7, .aload_n 0, 1, []), (8, .iload_n 2, 1, []), (9, .invokestatic 15, 3, [21, 2, 0, 252]), (12, .ifCond .ne 5, 3, []), (15, .iload_n 2, 1, []), (16, .ireturn, 1, []), (17, .iinc 2 1, 3, []), (20, .goto (-18), 3, []), (23, .iload_n 1, 1, []), (24, .iconst 2, 1, []), (25, .if_icmp .lt 16, 3, []), (28, .iload_n 1, 1, []), (29, .aload_n 0, 1, []), (30, .iconst 1, 1, []), (31, .iaload, 1, []), (32, .invokestatic 19, 3, [22, 1, 0, 255]), (35, .invokestatic 22, 3, [24, 1, 0, 261]), (38, .if_icmp .gt 7, 3, []), (41, .iconst 1, 1, []), (42, .goto 4, 3, []), (45, .iconst 0, 1, []), (46, .istore_n 2, 1, []), (47, .iload_n 2, 1, []), (48, .ifCond .eq 7, 3, []), (51, .iload_n 1, 1, []), (52, .goto 5, 3, []), (55, .bipush (-9), 2, []), (57, .ireturn, 1, [])]
def pm_w_21 : List (Nat × Instr × Nat × List Nat) := [(0, .aload_n 0, 1, []), (1, .iload_n 1, 1, []), (2, .iaload, 1, []), (3, .istore_n 2, 1, []), (4, .iload_n 1, 1, []), (5, .ifCond .ne 15, 3, []), (8, .iload_n 2, 1, []), (9, .bipush 118, 2, []), (11, .if_icmp .ne 7, 3, []), (14, .iconst 1, 1, []), (15, .goto 4, 3, []), (18, .iconst 0, 1, []), (19, .ireturn, 1, []), (20, .iload_n 1, 1, []), (21, .iconst 1, 1, []), (22, .if_icmp .ne 21, 3, []), (25, .iload_n 2, 1, []), (26, .bipush 50, 2, []), (28, .if_icmp .lt 13, 3, []), (31, .iload_n 2, 1, []), (32, .bipush 54, 2, []), (34, .if_icmp .gt 7, 3, []), (37, .iconst 1, 1, []), (38, .goto 4, 3, []), (41, .iconst 0, 1, []), (42, .ireturn, 1, []), (43, .aload_n 0, 1, []), (44, .iconst 1, 1, []), (45, .iaload, 1, []), (46, .invokestatic 19, 3, [22, 1, 0, 255]), (49, .istore_n 3, 1, []), (50, .iload_n 3, 1, []), (51, .invokestatic 11, 3, [23, 1, 0, 258]), (54, .istore 4, 2, []), (56, .iload_n 3, 1, []), (57, .invokestatic 22, 3, [24, 1, 0, 261]), (60, .istore 5, 2, []), (62, .iload_n 1, 1, []), (63, .iload 4, 2, []), (65, .if_icmp .ge 33, 3, []), (68, .iload_n 1, 1, []), (69, .iconst 2, 1, []), (70, .isub, 1, []), (71, .iconst 3, 1, []), (72, .irem, 1, []), (73, .ifCond .ne 17, 3, []), (76, .iload_n 2, 1, []), (77, .bipush 44, 2, []), (79, .if_icmp .ne 7, 3, []), (82, .iconst 1, 1, []), (83, .goto 14, 3, []), (86, .iconst 0, 1, []), (87, .goto 10, 3, []), (90, .iload_n 2, 1, []), (91, .invokestatic 19, 3, [22, 1, 0, 255]), (94, .invokestatic 25, 3, [34, 1, 1, 264]), (97, .ireturn, 1, []), (98, .iload_n 1, 1, []), (99, .iload 5, 2, []), (101, .iconst 1, 1, []), (102, .isub, 1, []), (103, .if_icmp .ge 14, 3, []), (106, .iload_n 2, 1, []), (107, .iload_n 1, 1, []), (108, .iload 4, 2, []), (110, .isub, 1, []), (111, .iconst 3, 1, []), (112, .irem, 1, []), (113, .invokestatic 29, 3, [25, 2, 0, 267]), (116, .ireturn, 1, []), (117, .iload_n 1, 1, []), (118, .iload 5, 2, []), (120, .iconst 1, 1, []), (121, .isub, 1, []), (122, .if_icmp .ne 15, 3, []), (125, .iload_n 2, 1, []), (126, .bipush 59, 2, []), (128, .if_icmp .ne 7, 3, []), (131, .iconst 1, 1, []), (132, .goto 4, 3, []), (135, .iconst 0, 1, []), (136, .ireturn, 1, []), (137, .iload_n 1, 1, []), (138, .iload 5, 2, []), (140, .bipush 8, 2, []), (142, .iadd, 1, []), (143, .if_icmp .ge 17, 3, []), (146, .iload_n 2, 1, []), (147, .invokestatic 19, 3, [22, 1, 0, 255]), (150, .invokestatic 25, 3, [34, 1, 1, 264]), (153, .ifCond .eq 7, 3, []), (156, .iconst 1, 1, []), (157, .goto 4, 3, []), (160, .iconst 0, 1, []), (161, .ireturn, 1, [])]
def pm_w_22 : List (Nat × Instr × Nat × List Nat) := [(0, .iload_n 0, 1, []), (1, .bipush 48, 2, []), (3, .isub, 1, []), (4, .ireturn, 1, [])]
def pm_w_23 : List (Nat × Instr × Nat × List Nat) := [(0, .iconst 2, 1, []), (1, .iconst 3, 1, []), (2, .iload_n 0, 1, []), (3, .imul, 1, []), (4, .iadd, 1, []), (5, .ireturn, 1, [])]
def pm_w_24 : List (Nat × Instr × Nat × List Nat) := [(0, .iload_n 0, 1, []), (1, .invokestatic 11, 3, [23, 1, 0, 258]), (4, .iconst 3, 1, []), (5, .iload_n 0, 1, []), (6, .iconst 1, 1, []), (7, .isub, 1, []), (8, .imul, 1, []), (9, .iadd, 1, []), (10, .iconst 1, 1, []), (11, .iadd, 1, []), (12, .ireturn, 1, [])]
def pm_w_25 : List (Nat × Instr × Nat × List Nat) := [(0, .iload_n 1, 1, []), (1, .ifCond .ne 15, 3, []), (4, .iload_n 0, 1, []), (5, .bipush 45, 2, []), (7, .if_icmp .ne 7, 3, []), (10, .iconst 1, 1, []), (11, .goto 4, 3, []), (14, .iconst 0, 1, []), (15, .ireturn, 1, []), (16, .iload_n 1, 1, []), (17, .iconst 1, 1, []), (18, .if_icmp .ne 20, 3, []), (21, .iload_n 0, 1, []), (22, .invokestatic 33, 3, [26, 1, 0, 270]), (25, .bipush (-9), 2, []), (27, .if_icmp .eq 7, 3, []), (30, .iconst 1, 1, []), (31, .goto 14, 3, []), (34, .iconst 0, 1, []), (35, .goto 10, 3, []), (38, .iload_n 0, 1, []), (39, .invokestatic 19, 3, [22, 1, 0, 255]), (42, .invokestatic 25, 3, [34, 1, 1, 264]), (45, .ireturn, 1, [])]
def pm_w_26 : List (Nat × Instr × Nat × List Nat) := [(0, .iload_n 0, 1, []), (1, .lookupswitch 41 #[(99, 37), (102, 39), (112, 35)], 35, []), (36, .iconst 0, 1, []), (37, .ireturn, 1, []), (38, .iconst 1, 1, []), (39, .ireturn, 1, []), (40, .iconst 2, 1, []), (41, .ireturn, 1, []), (42, .bipush (-9), 2, []), (44, .ireturn, 1, [])]
def pm_w_27 : List (Nat × Instr × Nat × List Nat) := [(0, .aload_n 0, 1, []), (1, .getfield 9, 3, [3, 0, 0, 149]), (4, .iconst 0, 1, []), (5, .invokestatic 18, 3, [142, 2, 0, 349]), (8, .aload_n 0, 1, []), (9, .getfield 15, 3, [3, 1, 0, 151]), (12, .iconst 0, 1, []), (13, .invokestatic 18, 3, [142, 2, 0, 349]), (16, .aload_n 0, 1, []), (17, .iconst 0, 1, []), (18, .putfield 24, 3, [3, 2, 0, 153]), (21, .aload_n 0, 1, []), (22, .iconst 0, 1, []), (23, .putfield 28, 3, [3, 3, 0, 155]), (26, .aload_n 0, 1, []), (27, .bipush (-9), 2, []), (29, .putfield 31, 3, [3, 4, 0, 157]), (32, .aload_n 0, 1, []), (33, .bipush (-9), 2, []), (35, .putfield 34, 3, [3, 5, 0, 159]), (38, .return_, 1, [])]
def pm_w_28 : List (Nat × Instr × Nat × List Nat) := [(0, .iload_n 3, 1, []), (1, .istore 6, 2, []), (3, .iconst 0, 1, []), (4, .istore 7, 2, []), (6, .iload 7, 2, []), (8, .aload_n 1, 1, []), (9, .getfield 37, 3, [0, 0, 1, 112]), (12, .if_icmp .ge 92, 3, []), (15, .aload_n 1, 1, []), (16, .iload 7, 2, []), (18, .iload 6, 2, []), (20, .iload 4, 2, []), (22, .iload 5, 2, []), (24, .invokevirtual 42, 3, [8, 4, 1, 354, 0]), (27, .istore 8, 2, []), (29, .aload_n 0, 1, []), (30, .getfield 9, 3, [3, 0, 0, 149]), (33, .iload 7, 2, []), (35, .iconst 0, 1, []), (36, .aload_n 0, 1, []), (37, .getfield 9, 3, [3, 0, 0, 149]), (40, .iload 7, 2, []), (42, .iaload, 1, []), (43, .iconst 1, 1, []), (44, .isub, 1, []), (45, .invokestatic 46, 3, [363, 0, 0]), (48, .iload 6, 2, []), (50, .iadd, 1, []), (51, .iload 8, 2, []), (53, .isub, 1, []), (54, .iastore, 1, []), (55, .aload_n 0, 1, []), (56, .getfield 15, 3, [3, 1, 0, 151]), (59, .iload 7, 2, []), (61, .dup2, 1, []), (62, .iaload, 1, []), (63, .iload 6, 2, []), (65, .iload 8, 2, []), (67, .isub, 1, []), (68, .iadd, 1, []), (69, .iastore, 1, []), (70, .aload_n 0, 1, []), (71, .getfield 9, 3, [3, 0, 0, 149]), (74, .iload 7, 2, []), (76, .iaload, 1, []), (77, .aload_n 1, 1, []), (78, .getfield 52, 3, [0, 3, 1, 121]), (81, .iload 7, 2, []), (83, .iaload, 1, []), (84, .if_icmp .le 10, 3, []), (87, .aload_n 0, 1, []), (88, .iload_n 2, 1, []), (89, .iload 7, 2, []), (91, .invokevirtual 55, 3, [29, 2, 0, 364, 3]), (94, .iload 8, 2, []), (96, .istore 6, 2, []), (98, .iinc 7 1, 3, []), (101, .goto (-95), 3, []), (104, .return_, 1, [])]
def pm_w_29 : List (Nat × Instr × Nat × List Nat) := [(0, .aload_n 0, 1, []), (1, .getfield 24, 3, [3, 2, 0, 153]), (4, .ifCond .ne 13, 3, []), (7, .aload_n 0, 1, []), (8, .iload_n 1, 1, []), (9, .putfield 31, 3, [3, 4, 0, 157]), (12, .aload_n 0, 1, []), (13, .iload_n 2, 1, []), (14, .putfield 34, 3, [3, 5, 0, 159]), (17, .aload_n 0, 1, []), (18, .dup, 1, []), (19, .getfield 24, 3, [3, 2, 0, 153]), (22, .iconst 1, 1, []), (23, .iadd, 1, []), (24, .putfield 24, 3, [3, 2, 0, 153]), (27, .aload_n 0, 1, []), (28, .dup, 1, []), (29, .getfield 28, 3, [3, 3, 0, 155]), (32, .iconst 1, 1, []), (33, .iload_n 2, 1, []), (34, .ishl, 1, []), (35, .ior, 1, []), (36, .putfield 28, 3, [3, 3, 0, 155]), (39, .return_, 1, [])]
def pm_w_30 : List (Nat × Instr × Nat × List Nat) := [(0, .iconst 0, 1, []), (1, .istore_n 2, 1, []), (2, .iconst 0, 1, []), (3, .istore_n 3, 1, []), (4, .iload_n 3, 1, []), (5, .aload_n 1, 1, []), (6, .getfield 37, 3, [0, 0, 1, 112]), (9, .if_icmp .ge 30, 3, []), (12, .aload_n 0, 1, []), (13, .getfield 15, 3, [3, 1, 0, 151]), (16, .iload_n 3, 1, []), (17, .iaload, 1, []), (18, .aload_n 1, 1, []), (19, .getfield 59, 3, [0, 2, 1, 118]), (22, .iload_n 3, 1, []), (23, .iaload, 1, []), (24, .if_icmp .lt 9, 3, []), (27, .iload_n 2, 1, []), (28, .iconst 1, 1, []), (29, .iload_n 3, 1, []), (30, .ishl, 1, []), (31, .ior, 1, []), (32, .istore_n 2, 1, []), (33, .iinc 3 1, 3, []), (36, .goto (-32), 3, []), (39, .iload_n 2, 1, []), (40, .ireturn, 1, [])]
def pm_w_31 : List (Nat × Instr × Nat × List Nat) := [(0, .aload_n 0, 1, []), (1, .iconst 0, 1, []), (2, .putfield 47, 3, [4, 6, 0, 200]), (5, .iload_n 1, 1, []), (6, .invokestatic 50, 3, [32, 1, 0, 220]), (9, .ifCond .ne 5, 3, []), (12, .iconst (-1), 1, []), (13, .ireturn, 1, []), (14, .iload_n 2, 1, []), (15, .invokestatic 54, 3, [33, 1, 0, 223]), (18, .ifCond .ne 6, 3, []), (21, .bipush (-2), 2, []), (23, .ireturn, 1, []), (24, .aload_n 0, 1, []), (25, .aload_n 0, 1, []), (26, .getfield 12, 3, [4, 0, 0, 194]), (29, .iload_n 1, 1, []), (30, .iload_n 2, 1, []), (31, .iload_n 3, 1, []), (32, .iload 4, 2, []), (34, .invokevirtual 57, 3, [12, 4, 1, 226, 2]), (37, .putfield 47, 3, [4, 6, 0, 200]), (40, .aload_n 0, 1, []), (41, .getfield 47, 3, [4, 6, 0, 200]), (44, .ifCond .eq 11, 3, []), (47, .bipush (-10), 2, []), (49, .aload_n 0, 1, []), (50, .getfield 47, 3, [4, 6, 0, 200]), (53, .isub, 1, []), (54, .ireturn, 1, []), (55, .aload_n 0, 1, []), (56, .getfield 12, 3, [4, 0, 0, 194]), (59, .iload_n 1, 1, []), (60, .iload_n 3, 1, []), (61, .iload 4, 2, []), (63, .aload_n 0, 1, []), (64, .getfield 39, 3, [4, 4, 0, 198]), (67, .invokevirtual 61, 3, [16, 4, 1, 242, 2]), (70, .aload_n 0, 1, []), (71, .getfield 39, 3, [4, 4, 0, 198]), (74, .iload 4, 2, []), (76, .invokestatic 65, 3, [20, 2, 1, 249]), (79, .istore 5, 2, []), (81, .iload 5, 2, []), (83, .bipush (-9), 2, []), (85, .if_icmp .eq 9, 3, []), (88, .bipush (-100), 2, []), (90, .iload 5, 2, []), (92, .isub, 1, []), (93, .ireturn, 1, []), (94, .aload_n 0, 1, []), (95, .getfield 21, 3, [4, 1, 0, 195]), (98, .aload_n 0, 1, []), (99, .getfield 39, 3, [4, 4, 0, 198]), (102, .iload 4, 2, []), (104, .invokevirtual 71, 3, [0, 2, 1, 273, 0]), (107, .aload_n 0, 1, []), (108, .getfield 35, 3, [4, 3, 0, 197]), (111, .iconst 0, 1, []), (112, .putfield 75, 3, [1, 0, 1, 181]), (115, .aload_n 0, 1, []), (116, .getfield 21, 3, [4, 1, 0, 195]), (119, .invokevirtual 78, 3, [1, 0, 1, 288, 0]), (122, .ireturn, 1, [])]
def pm_w_32 : List (Nat × Instr × Nat × List Nat) := [(0, .iload_n 0, 1, []), (1, .ifCond .lt 12, 3, []), (4, .iload_n 0, 1, []), (5, .iconst 4, 1, []), (6, .if_icmp .ge 7, 3, []), (9, .iconst 1, 1, []), (10, .goto 4, 3, []), (13, .iconst 0, 1, []), (14, .ireturn, 1, [])]
def pm_w_33 : List (Nat × Instr × Nat × List Nat) := [(0, .iload_n 0, 1, []), (1, .ifCond .lt 12, 3, []), (4, .iload_n 0, 1, []), (5, .iconst 2, 1, []), (6, .if_icmp .gt 7, 3, []), (9, .iconst 1, 1, []), (10, .goto 4, 3, []), (13, .iconst 0, 1, []), (14, .ireturn, 1, [])]
def pm_w_34 : List (Nat × Instr × Nat × List Nat) := [(0, .iload_n 0, 1, []), (1, .ifCond .lt 13, 3, []), (4, .iload_n 0, 1, []), (5, .bipush 9, 2, []), (7, .if_icmp .gt 7, 3, []), (10, .iconst 1, 1, []), (11, .goto 4, 3, []), (14, .iconst 0, 1, []), (15, .ireturn, 1, [])]
def pm_w_35 : List (Nat × Instr × Nat × List Nat) := [(0, .aload_n 0, 1, []), (1, .getfield 21, 3, [4, 1, 0, 195]), (4, .iload_n 1, 1, []), (5, .invokevirtual 82, 3, [2, 1, 1, 293, 0]), (8, .ifCond .ne 5, 3, []), (11, .iconst (-1), 1, []), (12, .ireturn, 1, []), (13, .iload_n 2, 1, []), (14, .ifCond .ne 13, 3, []), (17, .aload_n 0, 1, []), (18, .getfield 21, 3, [4, 1, 0, 195]), (21, .getfield 85, 3, [0, 2, 1, 117]), (24, .iload_n 1, 1, []), (25, .iaload, 1, []), (26, .ireturn, 1, []), (27, .iload_n 2, 1, []), (28, .iconst 1, 1, []), (29, .if_icmp .ne 15, 3, []), (32, .aload_n 0, 1, []), (33, .getfield 21, 3, [4, 1, 0, 195]), (36, .getfield 88, 3, [0, 3, 1, 120]), (39, .iload_n 1, 1, []), (40, .iaload, 1, []), (41, .goto 5, 3, []), (44, .bipush (-2), 2, []), (46, .ireturn, 1, [])]
def pm_w_36 : List (Nat × Instr × Nat × List Nat) := [(0, .aload_n 0, 1, []), (1, .getfield 21, 3, [4, 1, 0, 195]), (4, .iload_n 1, 1, []), (5, .invokevirtual 91, 3, [3, 1, 1, 301, 0]), (8, .ifCond .ne 5, 3, []), (11, .iconst (-1), 1, []), (12, .ireturn, 1, []), (13, .iload_n 2, 1, []), (14, .ifCond .ne 13, 3, []), (17, .aload_n 0, 1, []), (18, .getfield 21, 3, [4, 1, 0, 195]), (21, .getfield 94, 3, [0, 4, 1, 123]), (24, .iload_n 1, 1, []), (25, .iaload, 1, []), (26, .ireturn, 1, []), (27, .iload_n 2, 1, []), (28, .iconst 1, 1, []), (29, .if_icmp .ne 15, 3, []), (32, .aload_n 0, 1, []), (33, .getfield 21, 3, [4, 1, 0, 195]), (36, .getfield 97, 3, [0, 5, 1, 125]), (39, .iload_n 1, 1, []), (40, .iaload, 1, []), (41, .goto 5, 3, []), (44, .bipush (-2), 2, []), (46, .ireturn, 1, [])]
def pm_w_37 : List (Nat × Instr × Nat × List Nat) := [(0, .aload_n 0, 1, []), (1, .getfield 21, 3, [4, 1, 0, 195]), (4, .iload_n 1, 1, []), (5, .invokevirtual 91, 3, [3, 1, 1, 301, 0]), (8, .ifCond .ne 5, 3, []), (11, .iconst (-1), 1, []), (12, .ireturn, 1, []), (13, .iload_n 2, 1, []), (14, .ifCond .lt 9, 3, []), (17, .iload_n 2, 1, []), (18, .bipush 99, 2, []), (20, .if_icmp .le 6, 3, []), (23, .bipush (-2), 2, []), (25, .ireturn, 1, []), (26, .aload_n 0, 1, []), (27, .getfield 21, 3, [4, 1, 0, 195]), (30, .iload_n 1, 1, []), (31, .iload_n 2, 1, []), (32, .invokevirtual 100, 3, [4, 2, 1, 309, 0]), (35, .ireturn, 1, [])]
def pm_w_38 : List (Nat × Instr × Nat × List Nat) := [(0, .aload_n 0, 1, []), (1, .getfield 21, 3, [4, 1, 0, 195]), (4, .iload_n 1, 1, []), (5, .invokevirtual 91, 3, [3, 1, 1, 301, 0]), (8, .ifCond .ne 5, 3, []), (11, .iconst (-1), 1, []), (12, .ireturn, 1, []), (13, .iload_n 2, 1, []), (14, .invokestatic 104, 3, [34, 1, 0, 320]), (17, .ifCond .ne 6, 3, []), (20, .bipush (-2), 2, []), (22, .ireturn, 1, []), (23, .aload_n 0, 1, []), (24, .getfield 21, 3, [4, 1, 0, 195]), (27, .getfield 97, 3, [0, 5, 1, 125]), (30, .iload_n 1, 1, []), (31, .iaload, 1, []), (32, .istore_n 3, 1, []), (33, .aload_n 0, 1, []), (34, .getfield 21, 3, [4, 1, 0, 195]), (37, .getfield 97, 3, [0, 5, 1, 125]), (40, .iload_n 1, 1, []), (41, .iload_n 2, 1, []), (42, .iastore, 1, []), (43, .iload_n 3, 1, []), (44, .ireturn, 1, [])]
def pm_w_39 : List (Nat × Instr × Nat × List Nat) := [(0, .aload_n 0, 1, []), (1, .getfield 21, 3, [4, 1, 0, 195]), (4, .invokevirtual 107, 3, [5, 0, 1, 325, 0]), (7, .ifCond .ne 6, 3, []), (10, .bipush (-3), 2, []), (12, .ireturn, 1, []), (13, .aload_n 0, 1, []), (14, .getfield 21, 3, [4, 1, 0, 195]), (17, .iload_n 1, 1, []), (18, .invokevirtual 111, 3, [6, 1, 1, 329, 0]), (21, .ifCond .eq 10, 3, []), (24, .iload_n 2, 1, []), (25, .invokestatic 104, 3, [34, 1, 0, 320]), (28, .ifCond .ne 6, 3, []), (31, .bipush (-2), 2, []), (33, .ireturn, 1, []), (34, .aload_n 0, 1, []), (35, .getfield 21, 3, [4, 1, 0, 195]), (38, .getfield 114, 3, [0, 6, 1, 127]), (41, .iload_n 1, 1, []), (42, .iaload, 1, []), (43, .istore_n 3, 1, []), (44, .aload_n 0, 1, []), (45, .getfield 21, 3, [4, 1, 0, 195]), (48, .getfield 114, 3, [0, 6, 1, 127]), (51, .iload_n 1, 1, []), (52, .iload_n 2, 1, []), (53, .iastore, 1, []), (54, .iload_n 3, 1, []), (55, .ireturn, 1, [])]
def pm_w_40 : List (Nat × Instr × Nat × List Nat) := [(0, .aload_n 0, 1, []), (1, .getfield 21, 3, [4, 1, 0, 195]), (4, .iload_n 1, 1, []), (5, .invokevirtual 82, 3, [2, 1, 1, 293, 0]), (8, .ifCond .ne 5, 3, []), (11, .iconst (-1), 1, []), (12, .ireturn, 1, []), (13, .aload_n 0, 1, []), (14, .getfield 21, 3, [4, 1, 0, 195]), (17, .iload_n 2, 1, []), (18, .invokevirtual 117, 3, [7, 1, 1, 337, 0]), (21, .ifCond .ne 6, 3, []), (24, .bipush (-2), 2, []), (26, .ireturn, 1, []), (27, .aload_n 0, 1, []), (28, .iload_n 2, 1, []), (29, .iconst 0, 1, []), (30, .iconst 0, 1, []), (31, .invokevirtual 120, 3, [41, 3, 0, 341, 4]), (34, .aload_n 0, 1, []), (35, .getfield 28, 3, [4, 2, 0, 196]), (38, .getfield 124, 3, [3, 0, 1, 150]), (41, .iload_n 1, 1, []), (42, .iaload, 1, []), (43, .ireturn, 1, [])]
def pm_w_41 : List (Nat × Instr × Nat × List Nat) := [(0, .aload_n 0, 1, []), (1, .getfield 28, 3, [4, 2, 0, 196]), (4, .invokevirtual 235, 3, [27, 0, 1, 345, 3]), (7, .iconst 0, 1, []), (8, .istore 4, 2, []), (10, .iload 4, 2, []), (12, .iload_n 1, 1, []), (13, .if_icmp .ge 34, 3, []), (16, .aload_n 0, 1, []), (17, .getfield 28, 3, [4, 2, 0, 196]), (20, .aload_n 0, 1, []), (21, .getfield 21, 3, [4, 1, 0, 195]), (24, .iload 4, 2, []), (26, .aload_n 0, 1, []), (27, .getfield 21, 3, [4, 1, 0, 195]), (30, .getfield 114, 3, [0, 6, 1, 127]), (33, .iload 4, 2, []), (35, .iaload, 1, []), (36, .iload_n 2, 1, []), (37, .iload_n 3, 1, []), (38, .invokevirtual 238, 3, [28, 5, 1, 350, 3]), (41, .iinc 4 1, 3, []), (44, .goto (-34), 3, []), (47, .return_, 1, [])]
def pm_w_42 : List (Nat × Instr × Nat × List Nat) := [(0, .iload_n 0, 1, []), (1, .iload_n 1, 1, []), (2, .ishr, 1, []), (3, .iconst 1, 1, []), (4, .iand, 1, []), (5, .iconst 1, 1, []), (6, .if_icmp .ne 7, 3, []), (9, .iconst 1, 1, []), (10, .goto 4, 3, []), (13, .iconst 0, 1, []), (14, .ireturn, 1, [])]
def pm_w_43 : List (Nat × Instr × Nat × List Nat) := [(0, .aload_n 0, 1, []), (1, .getfield 21, 3, [4, 1, 0, 195]), (4, .iload_n 1, 1, []), (5, .invokevirtual 82, 3, [2, 1, 1, 293, 0]), (8, .ifCond .ne 5, 3, []), (11, .iconst (-1), 1, []), (12, .ireturn, 1, []), (13, .aload_n 0, 1, []), (14, .getfield 21, 3, [4, 1, 0, 195]), (17, .iload_n 2, 1, []), (18, .invokevirtual 117, 3, [7, 1, 1, 337, 0]), (21, .ifCond .ne 6, 3, []), (24, .bipush (-2), 2, []), (26, .ireturn, 1, []), (27, .aload_n 0, 1, []), (28, .iload_n 2, 1, []), (29, .iconst 0, 1, []), (30, .iconst 0, 1, []), (31, .invokevirtual 120, 3, [41, 3, 0, 341, 4]), (34, .aload_n 0, 1, []), (35, .getfield 28, 3, [4, 2, 0, 196]), (38, .getfield 127, 3, [3, 1, 1, 152]), (41, .iload_n 1, 1, []), (42, .iaload, 1, []), (43, .ireturn, 1, [])]
def pm_w_44 : List (Nat × Instr × Nat × List Nat) := [(0, .iload_n 1, 1, []), (1, .ifCond .eq 11, 3, []), (4, .iload_n 1, 1, []), (5, .iconst 1, 1, []), (6, .if_icmp .eq 6, 3, []), (9, .bipush (-2), 2, []), (11, .ireturn, 1, []), (12, .aload_n 0, 1, []), (13, .getfield 21, 3, [4, 1, 0, 195]), (16, .invokevirtual 107, 3, [5, 0, 1, 325, 0]), (19, .ifCond .ne 6, 3, []), (22, .bipush (-3), 2, []), (24, .ireturn, 1, []), (25, .aload_n 0, 1, []), (26, .aload_n 0, 1, []), (27, .getfield 21, 3, [4, 1, 0, 195]), (30, .getfield 130, 3, [0, 1, 1, 115]), (33, .iconst 0, 1, []), (34, .iconst 0, 1, []), (35, .invokevirtual 120, 3, [41, 3, 0, 341, 4]), (38, .iload_n 1, 1, []), (39, .ifCond .ne 13, 3, []), (42, .aload_n 0, 1, []), (43, .getfield 28, 3, [4, 2, 0, 196]), (46, .getfield 133, 3, [3, 4, 1, 158]), (49, .goto 10, 3, []), (52, .aload_n 0, 1, []), (53, .getfield 28, 3, [4, 2, 0, 196]), (56, .getfield 136, 3, [3, 5, 1, 160]), (59, .ireturn, 1, [])]
def pm_w_45 : List (Nat × Instr × Nat × List Nat) := [(0, .aload_n 0, 1, []), (1, .getfield 21, 3, [4, 1, 0, 195]), (4, .invokevirtual 107, 3, [5, 0, 1, 325, 0]), (7, .ifCond .ne 6, 3, []), (10, .bipush (-3), 2, []), (12, .ireturn, 1, []), (13, .aload_n 0, 1, []), (14, .aload_n 0, 1, []), (15, .getfield 21, 3, [4, 1, 0, 195]), (18, .getfield 130, 3, [0, 1, 1, 115]), (21, .iconst 0, 1, []), (22, .iconst 0, 1, []), (23, .invokevirtual 120, 3, [41, 3, 0, 341, 4]), (26, .aload_n 0, 1, []), (27, .getfield 28, 3, [4, 2, 0, 196]), (30, .aload_n 0, 1, []), (31, .getfield 21, 3, [4, 1, 0, 195]), (34, .invokevirtual 139, 3, [30, 1, 1, 380, 3]), (37, .ireturn, 1, [])]
def pm_w_46 : List (Nat × Instr × Nat × List Nat) := [(0, .aload_n 0, 1, []), (1, .iconst 0, 1, []), (2, .putfield 47, 3, [4, 6, 0, 200]), (5, .iload_n 1, 1, []), (6, .invokestatic 50, 3, [32, 1, 0, 220]), (9, .ifCond .ne 5, 3, []), (12, .iconst (-1), 1, []), (13, .ireturn, 1, []), (14, .iload_n 2, 1, []), (15, .invokestatic 54, 3, [33, 1, 0, 223]), (18, .ifCond .eq 11, 3, []), (21, .iload 5, 2, []), (23, .invokestatic 143, 3, [47, 1, 0, 388]), (26, .ifCond .ne 6, 3, []), (29, .bipush (-2), 2, []), (31, .ireturn, 1, []), (32, .aload_n 0, 1, []), (33, .aload_n 0, 1, []), (34, .getfield 12, 3, [4, 0, 0, 194]), (37, .iload_n 1, 1, []), (38, .iload_n 2, 1, []), (39, .iload_n 3, 1, []), (40, .iload 4, 2, []), (42, .invokevirtual 57, 3, [12, 4, 1, 226, 2]), (45, .putfield 47, 3, [4, 6, 0, 200]), (48, .aload_n 0, 1, []), (49, .getfield 47, 3, [4, 6, 0, 200]), (52, .ifCond .eq 11, 3, []), (55, .bipush (-10), 2, []), (57, .aload_n 0, 1, []), (58, .getfield 47, 3, [4, 6, 0, 200]), (61, .isub, 1, []), (62, .ireturn, 1, []), (63, .aload_n 0, 1, []), (64, .getfield 21, 3, [4, 1, 0, 195]), (67, .invokevirtual 107, 3, [5, 0, 1, 325, 0]), (70, .ifCond .ne 6, 3, []), (73, .bipush (-3), 2, []), (75, .ireturn, 1, []), (76, .iload 4, 2, []), (78, .aload_n 0, 1, []), (79, .getfield 21, 3, [4, 1, 0, 195]), (82, .getfield 130, 3, [0, 1, 1, 115]), (85, .if_icmp .eq 6, 3, []), (88, .bipush (-2), 2, []), (90, .ireturn, 1, []), (91, .aload_n 0, 1, []), (92, .getfield 12, 3, [4, 0, 0, 194]), (95, .iload_n 1, 1, []), (96, .iload_n 3, 1, []), (97, .iload 4, 2, []), (99, .aload_n 0, 1, []), (100, .getfield 39, 3, [4, 4, 0, 198]), (103, .invokevirtual 61, 3, [16, 4, 1, 242, 2]), (106, .aload_n 0, 1, []), (107, .iload 4, 2, []), (109, .invokevirtual 146, 3, [48, 1, 0, 391, 4]), (112, .ifCond .eq 12, 3, []), (115, .aload_n 0, 1, []), (116, .iload 5, 2, []), (118, .invokevirtual 149, 3, [49, 1, 0, 399, 4]), (121, .goto 5, 3, []), (124, .bipush (-2), 2, []), (126, .ireturn, 1, [])]
def pm_w_47 : List (Nat × Instr × Nat × List Nat) := [(0, .iload_n 0, 1, []), (1, .ifCond .lt 8, 3, []), (4, .iload_n 0, 1, []), (5, .iconst 3, 1, []), (6, .if_icmp .le 27, 3, []), (9, .iload_n 0, 1, []), (10, .bipush 10, 2, []), (12, .if_icmp .lt 9, 3, []), (15, .iload_n 0, 1, []), (16, .bipush 15, 2, []), (18, .if_icmp .le 15, 3, []), (21, .iload_n 0, 1, []), (22, .bipush 20, 2, []), (24, .if_icmp .lt 13, 3, []), (27, .iload_n 0, 1, []), (28, .bipush 25, 2, []), (30, .if_icmp .gt 7, 3, []), (33, .iconst 1, 1, []), (34, .goto 4, 3, []), (37, .iconst 0, 1, []), (38, .ireturn, 1, [])]
def pm_w_48 : List (Nat × Instr × Nat × List Nat) := [(0, .iconst 0, 1, []), (1, .istore_n 2, 1, []), (2, .iload_n 2, 1, []), (3, .iload_n 1, 1, []), (4, .if_icmp .ge 36, 3, []), (7, .aload_n 0, 1, []), (8, .getfield 39, 3, [4, 4, 0, 198]), (11, .iload_n 2, 1, []), (12, .iaload, 1, []), (13, .ifCond .lt 19, 3, []), (16, .aload_n 0, 1, []), (17, .getfield 39, 3, [4, 4, 0, 198]), (20, .iload_n 2, 1, []), (21, .iaload, 1, []), (22, .aload_n 0, 1, []), (23, .getfield 21, 3, [4, 1, 0, 195]), (26, .invokevirtual 153, 3, [9, 0, 1, 395, 0]), (29, .if_icmp .lt 5, 3, []), (32, .iconst 0, 1, []), (33, .ireturn, 1, []), (34, .iinc 2 1, 3, []), (37, .goto (-35), 3, []), (40, .iconst 1, 1, []), (41, .ireturn, 1, [])]
def pm_w_49 : List (Nat × Instr × Nat × List Nat) := [(0, .aload_n 0, 1, []), (1, .getfield 28, 3, [4, 2, 0, 196]), (4, .invokevirtual 235, 3, [27, 0, 1, 345, 3]), (7, .iconst 0, 1, []), (8, .istore_n 2, 1, []), (9, .iload_n 2, 1, []), (10, .aload_n 0, 1, []), (11, .getfield 21, 3, [4, 1, 0, 195]), (14, .getfield 130, 3, [0, 1, 1, 115]), (17, .if_icmp .ge 37, 3, []), (20, .aload_n 0, 1, []), (21, .getfield 28, 3, [4, 2, 0, 196]), (24, .aload_n 0, 1, []), (25, .getfield 21, 3, [4, 1, 0, 195]), (28, .iload_n 2, 1, []), (29, .aload_n 0, 1, []), (30, .getfield 21, 3, [4, 1, 0, 195]), (33, .getfield 114, 3, [0, 6, 1, 127]), (36, .iload_n 2, 1, []), (37, .iaload, 1, []), (38, .aload_n 0, 1, []), (39, .getfield 39, 3, [4, 4, 0, 198]), (42, .iload_n 2, 1, []), (43, .iaload, 1, []), (44, .iconst 0, 1, []), (45, .invokevirtual 238, 3, [28, 5, 1, 350, 3]), (48, .iinc 2 1, 3, []), (51, .goto (-42), 3, []), (54, .iload_n 1, 1, []), (55, .tableswitch 65 0 3 #[29, 37, 45, 53], 29, []), (84, .aload_n 0, 1, []), (85, .getfield 28, 3, [4, 2, 0, 196]), (88, .getfield 156, 3, [3, 2, 1, 154]), (91, .ireturn, 1, []), (92, .aload_n 0, 1, []), (93, .getfield 28, 3, [4, 2, 0, 196]), (96, .getfield 133, 3, [3, 4, 1, 158]), (99, .ireturn, 1, []), (100, .aload_n 0, 1, []), (101, .getfield 28, 3, [4, 2, 0, 196]), (104, .getfield 136, 3, [3, 5, 1, 160]), (107, .ireturn, 1, []), (108, .aload_n 0, 1, []), (109, .getfield 28, 3, [4, 2, 0, 196]), (112, .aload_n 0, 1, []), (113, .getfield 21, 3, [4, 1, 0, 195]), (116, .invokevirtual 139, 3, [30, 1, 1, 380, 3]), (119, .ireturn, 1, []), (120, .iload_n 1, 1, []), (121, .bipush 20, 2, []), (123, .if_icmp .ge 21, 3, []), (126, .aload_n 0, 1, []), (127, .aload_n 0, 1, []), (128, .getfield 28, 3, [4, 2, 0, 196]), (131, .getfield 124, 3, [3, 0, 1, 150]), (134, .iload_n 1, 1, []), (135, .bipush 10, 2, []), (137, .isub, 1, []), (138, .invokevirtual 242, 3, [50, 2, 0, 403, 4]), (141, .goto 18, 3, []), (144, .aload_n 0, 1, []), (145, .aload_n 0, 1, []), (146, .getfield 28, 3, [4, 2, 0, 196]), (149, .getfield 127, 3, [3, 1, 1, 152]), (152, .iload_n 1, 1, []), (153, .bipush 20, 2, []), (155, .isub, 1, []), (156, .invokevirtual 242, 3, [50, 2, 0, 403, 4]), (159, .ireturn, 1, [])]
def pm_w_50 : List (Nat × Instr × Nat × List Nat) := [(0, .aload_n 0, 1, []), (1, .getfield 21, 3, [4, 1, 0, 195]), (4, .iload_n 2, 1, []), (5, .invokevirtual 82, 3, [2, 1, 1, 293, 0]), (8, .ifCond .eq 9, 3, []), (11, .aload_n 1, 1, []), (12, .iload_n 2, 1, []), (13, .iaload, 1, []), (14, .goto 5, 3, []), (17, .bipush (-9), 2, []), (19, .ireturn, 1, [])]
def pm_w_51 : List (Nat × Instr × Nat × List Nat) := [(0, .aload_n 0, 1, []), (1, .getfield 21, 3, [4, 1, 0, 195]), (4, .invokevirtual 107, 3, [5, 0, 1, 325, 0]), (7, .ifCond .ne 6, 3, []), (10, .bipush (-3), 2, []), (12, .ireturn, 1, []), (13, .bipush (-9), 2, []), (15, .istore_n 1, 1, []), (16, .iconst 0, 1, []), (17, .istore_n 2, 1, []), (18, .iload_n 2, 1, []), (19, .aload_n 0, 1, []), (20, .getfield 21, 3, [4, 1, 0, 195]), (23, .invokevirtual 153, 3, [9, 0, 1, 395, 0]), (26, .if_icmp .ge 42, 3, []), (29, .aload_n 0, 1, []), (30, .aload_n 0, 1, []), (31, .getfield 21, 3, [4, 1, 0, 195]), (34, .getfield 130, 3, [0, 1, 1, 115]), (37, .iload_n 2, 1, []), (38, .iconst 0, 1, []), (39, .invokevirtual 120, 3, [41, 3, 0, 341, 4]), (42, .aload_n 0, 1, []), (43, .getfield 28, 3, [4, 2, 0, 196]), (46, .getfield 156, 3, [3, 2, 1, 154]), (49, .ifCond .ne 13, 3, []), (52, .iload_n 2, 1, []), (53, .iload_n 1, 1, []), (54, .invokestatic 159, 3, [52, 2, 0, 411]), (57, .ifCond .eq 5, 3, []), (60, .iload_n 2, 1, []), (61, .istore_n 1, 1, []), (62, .iinc 2 1, 3, []), (65, .goto (-47), 3, []), (68, .iload_n 1, 1, []), (69, .ireturn, 1, [])]
def pm_w_52 : List (Nat × Instr × Nat × List Nat) := [(0, .iload_n 1, 1, []), (1, .bipush (-9), 2, []), (3, .if_icmp .eq 14, 3, []), (6, .iload_n 0, 1, []), (7, .invokestatic 163, 3, [141, 1, 0, 414]), (10, .iload_n 1, 1, []), (11, .invokestatic 163, 3, [141, 1, 0, 414]), (14, .if_icmp .ge 7, 3, []), (17, .iconst 1, 1, []), (18, .goto 4, 3, []), (21, .iconst 0, 1, []), (22, .ireturn, 1, [])]
def pm_w_53 : List (Nat × Instr × Nat × List Nat) := [(0, .aload_n 0, 1, []), (1, .getfield 21, 3, [4, 1, 0, 195]), (4, .invokevirtual 107, 3, [5, 0, 1, 325, 0]), (7, .ifCond .ne 6, 3, []), (10, .bipush (-3), 2, []), (12, .ireturn, 1, []), (13, .bipush (-9), 2, []), (15, .istore_n 1, 1, []), (16, .iconst (-1), 1, []), (17, .istore_n 2, 1, []), (18, .iconst 0, 1, []), (19, .istore_n 3, 1, []), (20, .iload_n 3, 1, []), (21, .aload_n 0, 1, []), (22, .getfield 21, 3, [4, 1, 0, 195]), (25, .invokevirtual 153, 3, [9, 0, 1, 395, 0]), (28, .if_icmp .ge 63, 3, []), (31, .aload_n 0, 1, []), (32, .aload_n 0, 1, []), (33, .getfield 21, 3, [4, 1, 0, 195]), (36, .getfield 130, 3, [0, 1, 1, 115]), (39, .iload_n 3, 1, []), (40, .iconst 0, 1, []), (41, .invokevirtual 120, 3, [41, 3, 0, 341, 4]), (44, .aload_n 0, 1, []), (45, .getfield 28, 3, [4, 2, 0, 196]), (48, .aload_n 0, 1, []), (49, .getfield 21, 3, [4, 1, 0, 195]), (52, .invokevirtual 139, 3, [30, 1, 1, 380, 3]), (55, .invokestatic 163, 3, [141, 1, 0, 414]), (58, .istore 4, 2, []), (60, .iload 4, 2, []), (62, .iload_n 2, 1, []), (63, .if_icmp .gt 17, 3, []), (66, .iload 4, 2, []), (68, .iload_n 2, 1, []), (69, .if_icmp .ne 16, 3, []), (72, .iload_n 3, 1, []), (73, .iload_n 1, 1, []), (74, .invokestatic 159, 3, [52, 2, 0, 411]), (77, .ifCond .eq 8, 3, []), (80, .iload_n 3, 1, []), (81, .istore_n 1, 1, []), (82, .iload 4, 2, []), (84, .istore_n 2, 1, []), (85, .iinc 3 1, 3, []), (88, .goto (-68), 3, []), (91, .iload_n 1, 1, []), (92, .ireturn, 1, [])]
def pm_w_54 : List (Nat × Instr × Nat × List Nat) := [(0, .aload_n 0, 1, []), (1, .getfield 21, 3, [4, 1, 0, 195]), (4, .iload_n 1, 1, []), (5, .invokevirtual 82, 3, [2, 1, 1, 293, 0]), (8, .ifCond .ne 5, 3, []), (11, .iconst (-1), 1, []), (12, .ireturn, 1, []), (13, .bipush (-9), 2, []), (15, .istore_n 2, 1, []), (16, .iconst 0, 1, []), (17, .istore_n 3, 1, []), (18, .iload_n 3, 1, []), (19, .aload_n 0, 1, []), (20, .getfield 21, 3, [4, 1, 0, 195]), (23, .invokevirtual 153, 3, [9, 0, 1, 395, 0]), (26, .if_icmp .ge 46, 3, []), (29, .aload_n 0, 1, []), (30, .aload_n 0, 1, []), (31, .getfield 21, 3, [4, 1, 0, 195]), (34, .getfield 130, 3, [0, 1, 1, 115]), (37, .iconst 0, 1, []), (38, .iload_n 3, 1, []), (39, .invokevirtual 120, 3, [41, 3, 0, 341, 4]), (42, .aload_n 0, 1, []), (43, .getfield 28, 3, [4, 2, 0, 196]), (46, .getfield 168, 3, [3, 3, 1, 156]), (49, .iload_n 1, 1, []), (50, .invokestatic 171, 3, [42, 2, 0, 428]), (53, .ifCond .ne 13, 3, []), (56, .iload_n 3, 1, []), (57, .iload_n 2, 1, []), (58, .invokestatic 159, 3, [52, 2, 0, 411]), (61, .ifCond .eq 5, 3, []), (64, .iload_n 3, 1, []), (65, .istore_n 2, 1, []), (66, .iinc 3 1, 3, []), (69, .goto (-51), 3, []), (72, .iload_n 2, 1, []), (73, .ireturn, 1, [])]
def pm_w_55 : List (Nat × Instr × Nat × List Nat) := [(0, .aload_n 0, 1, []), (1, .getfield 21, 3, [4, 1, 0, 195]), (4, .iload_n 1, 1, []), (5, .invokevirtual 82, 3, [2, 1, 1, 293, 0]), (8, .ifCond .ne 5, 3, []), (11, .iconst (-1), 1, []), (12, .ireturn, 1, []), (13, .aload_n 0, 1, []), (14, .getfield 21, 3, [4, 1, 0, 195]), (17, .iload_n 2, 1, []), (18, .invokevirtual 117, 3, [7, 1, 1, 337, 0]), (21, .ifCond .eq 13, 3, []), (24, .iload_n 3, 1, []), (25, .ifCond .lt 9, 3, []), (28, .iload_n 3, 1, []), (29, .bipush 99, 2, []), (31, .if_icmp .le 6, 3, []), (34, .bipush (-2), 2, []), (36, .ireturn, 1, []), (37, .aload_n 0, 1, []), (38, .getfield 35, 3, [4, 3, 0, 197]), (41, .getfield 75, 3, [1, 0, 1, 181]), (44, .bipush 8, 2, []), (46, .if_icmp .lt 6, 3, []), (49, .bipush (-4), 2, []), (51, .ireturn, 1, []), (52, .aload_n 0, 1, []), (53, .getfield 35, 3, [4, 3, 0, 197]), (56, .iload_n 1, 1, []), (57, .iload_n 2, 1, []), (58, .iload_n 3, 1, []), (59, .invokevirtual 174, 3, [10, 3, 1, 433, 1]), (62, .ireturn, 1, [])]
def pm_w_56 : List (Nat × Instr × Nat × List Nat) := [(0, .iload_n 1, 1, []), (1, .ifCond .lt 14, 3, []), (4, .iload_n 1, 1, []), (5, .aload_n 0, 1, []), (6, .getfield 35, 3, [4, 3, 0, 197]), (9, .getfield 75, 3, [1, 0, 1, 181]), (12, .if_icmp .le 6, 3, []), (15, .bipush (-2), 2, []), (17, .ireturn, 1, []), (18, .aload_n 0, 1, []), (19, .getfield 35, 3, [4, 3, 0, 197]), (22, .dup, 1, []), (23, .getfield 75, 3, [1, 0, 1, 181]), (26, .iload_n 1, 1, []), (27, .isub, 1, []), (28, .putfield 75, 3, [1, 0, 1, 181]), (31, .aload_n 0, 1, []), (32, .getfield 35, 3, [4, 3, 0, 197]), (35, .getfield 75, 3, [1, 0, 1, 181]), (38, .ireturn, 1, [])]
def pm_w_57 : List (Nat × Instr × Nat × List Nat) := [(0, .aload_n 0, 1, []), (1, .getfield 21, 3, [4, 1, 0, 195]), (4, .iload_n 1, 1, []), (5, .invokevirtual 91, 3, [3, 1, 1, 301, 0]), (8, .ifCond .ne 5, 3, []), (11, .iconst (-1), 1, []), (12, .ireturn, 1, []), (13, .aload_n 0, 1, []), (14, .aload_n 0, 1, []), (15, .getfield 21, 3, [4, 1, 0, 195]), (18, .getfield 97, 3, [0, 5, 1, 125]), (21, .iload_n 1, 1, []), (22, .bipush 9, 2, []), (24, .invokevirtual 178, 3, [58, 3, 0, 445, 4]), (27, .ireturn, 1, [])]
def pm_w_58 : List (Nat × Instr × Nat × List Nat) := [(0, .aload_n 1, 1, []), (1, .iload_n 2, 1, []), (2, .iaload, 1, []), (3, .istore 4, 2, []), (5, .iconst 0, 1, []), (6, .istore 5, 2, []), (8, .iconst 0, 1, []), (9, .istore 6, 2, []), (11, .iload 6, 2, []), (13, .iload_n 3, 1, []), (14, .if_icmp .gt 30, 3, []), (17, .aload_n 1, 1, []), (18, .iload_n 2, 1, []), (19, .iload 6, 2, []), (21, .iastore, 1, []), (22, .aload_n 0, 1, []), (23, .invokevirtual 245, 3, [59, 0, 0, 449, 4]), (26, .ifCond .eq 12, 3, []), (29, .iload 5, 2, []), (31, .iconst 1, 1, []), (32, .iload 6, 2, []), (34, .ishl, 1, []), (35, .ior, 1, []), (36, .istore 5, 2, []), (38, .iinc 6 1, 3, []), (41, .goto (-30), 3, []), (44, .aload_n 1, 1, []), (45, .iload_n 2, 1, []), (46, .iload 4, 2, []), (48, .iastore, 1, []), (49, .iload 5, 2, []), (51, .ireturn, 1, [])]
def pm_w_59 : List (Nat × Instr × Nat × List Nat) := [(0, .aload_n 0, 1, []), (1, .getfield 28, 3, [4, 2, 0, 196]), (4, .invokevirtual 235, 3, [27, 0, 1, 345, 3]), (7, .aload_n 0, 1, []), (8, .getfield 35, 3, [4, 3, 0, 197]), (11, .iconst 0, 1, []), (12, .aload_n 0, 1, []), (13, .getfield 28, 3, [4, 2, 0, 196]), (16, .getfield 124, 3, [3, 0, 1, 150]), (19, .invokevirtual 248, 3, [11, 2, 1, 453, 1]), (22, .istore_n 1, 1, []), (23, .iconst 0, 1, []), (24, .istore_n 2, 1, []), (25, .iload_n 2, 1, []), (26, .aload_n 0, 1, []), (27, .getfield 21, 3, [4, 1, 0, 195]), (30, .getfield 130, 3, [0, 1, 1, 115]), (33, .if_icmp .ge 54, 3, []), (36, .iload_n 1, 1, []), (37, .ifCond .eq 50, 3, []), (40, .aload_n 0, 1, []), (41, .getfield 28, 3, [4, 2, 0, 196]), (44, .aload_n 0, 1, []), (45, .getfield 21, 3, [4, 1, 0, 195]), (48, .iload_n 2, 1, []), (49, .aload_n 0, 1, []), (50, .getfield 21, 3, [4, 1, 0, 195]), (53, .getfield 114, 3, [0, 6, 1, 127]), (56, .iload_n 2, 1, []), (57, .iaload, 1, []), (58, .iconst 0, 1, []), (59, .iconst 0, 1, []), (60, .invokevirtual 238, 3, [28, 5, 1, 350, 3]), (63, .aload_n 0, 1, []), (64, .getfield 35, 3, [4, 3, 0, 197]), (67, .iload_n 2, 1, []), (68, .iconst 1, 1, []), (69, .iadd, 1, []), (70, .aload_n 0, 1, []), (71, .getfield 28, 3, [4, 2, 0, 196]), (74, .getfield 124, 3, [3, 0, 1, 150]), (77, .invokevirtual 248, 3, [11, 2, 1, 453, 1]), (80, .istore_n 1, 1, []), (81, .iinc 2 1, 3, []), (84, .goto (-59), 3, []), (87, .iload_n 1, 1, []), (88, .ireturn, 1, [])]
def pm_w_60 : List (Nat × Instr × Nat × List Nat) := [(0, .aload_n 0, 1, []), (1, .getfield 21, 3, [4, 1, 0, 195]), (4, .iload_n 1, 1, []), (5, .invokevirtual 91, 3, [3, 1, 1, 301, 0]), (8, .ifCond .ne 5, 3, []), (11, .iconst (-1), 1, []), (12, .ireturn, 1, []), (13, .aload_n 0, 1, []), (14, .aload_n 0, 1, []), (15, .getfield 21, 3, [4, 1, 0, 195]), (18, .getfield 94, 3, [0, 4, 1, 123]), (21, .iload_n 1, 1, []), (22, .iconst 2, 1, []), (23, .invokevirtual 178, 3, [58, 3, 0, 445, 4]), (26, .ireturn, 1, [])]
def pm_w_61 : List (Nat × Instr × Nat × List Nat) := [(0, .aload_n 0, 1, []), (1, .getfield 21, 3, [4, 1, 0, 195]), (4, .invokevirtual 107, 3, [5, 0, 1, 325, 0]), (7, .ifCond .ne 6, 3, []), (10, .bipush (-3), 2, []), (12, .ireturn, 1, []), (13, .aload_n 0, 1, []), (14, .getfield 21, 3, [4, 1, 0, 195]), (17, .iload_n 1, 1, []), (18, .invokevirtual 111, 3, [6, 1, 1, 329, 0]), (21, .ifCond .ne 6, 3, []), (24, .bipush (-2), 2, []), (26, .ireturn, 1, []), (27, .aload_n 0, 1, []), (28, .aload_n 0, 1, []), (29, .getfield 21, 3, [4, 1, 0, 195]), (32, .getfield 114, 3, [0, 6, 1, 127]), (35, .iload_n 1, 1, []), (36, .bipush 9, 2, []), (38, .invokevirtual 178, 3, [58, 3, 0, 445, 4]), (41, .ireturn, 1, [])]
def pm_w_62 : List (Nat × Instr × Nat × List Nat) := [(0, .aload_n 0, 1, []), (1, .getfield 21, 3, [4, 1, 0, 195]), (4, .iload_n 1, 1, []), (5, .invokevirtual 82, 3, [2, 1, 1, 293, 0]), (8, .ifCond .ne 7, 3, []), (11, .ldc2_w 182, 3, [469, 9223372036854775808]), (14, .lreturn, 1, []), (15, .iload_n 2, 1, []), (16, .ifCond .eq 12, 3, []), (19, .iload_n 2, 1, []), (20, .iconst 1, 1, []), (21, .if_icmp .eq 7, 3, []), (24, .ldc2_w 182, 3, [469, 9223372036854775808]), (27, .lreturn, 1, []), (28, .aload_n 0, 1, []), (29, .iload_n 1, 1, []), (30, .invokevirtual 184, 3, [63, 1, 0, 470, 4]), (33, .istore_n 3, 1, []), (34, .iconst 1, 1, []), (35, .aload_n 0, 1, []), (36, .getfield 21, 3, [4, 1, 0, 195]), (39, .getfield 130, 3, [0, 1, 1, 115]), (42, .ishl, 1, []), (43, .istore 4, 2, []), (45, .iconst 0, 1, []), (46, .istore 5, 2, []), (48, .iload 5, 2, []), (50, .aload_n 0, 1, []), (51, .getfield 21, 3, [4, 1, 0, 195]), (54, .getfield 130, 3, [0, 1, 1, 115]), (57, .if_icmp .ge 25, 3, []), (60, .iload_n 3, 1, []), (61, .iconst 1, 1, []), (62, .iand, 1, []), (63, .ifCond .ne 19, 3, []), (66, .iload_n 3, 1, []), (67, .iconst 1, 1, []), (68, .ishr, 1, []), (69, .istore_n 3, 1, []), (70, .iload 4, 2, []), (72, .iconst 1, 1, []), (73, .ishr, 1, []), (74, .istore 4, 2, []), (76, .iinc 5 1, 3, []), (79, .goto (-31), 3, []), (82, .iload_n 2, 1, []), (83, .ifCond .ne 8, 3, []), (86, .iload_n 3, 1, []), (87, .i2l, 1, []), (88, .goto 6, 3, []), (91, .iload 4, 2, []), (93, .i2l, 1, []), (94, .lreturn, 1, [])]
def pm_w_63 : List (Nat × Instr × Nat × List Nat) := [(0, .iconst 0, 1, []), (1, .istore_n 2, 1, []), (2, .iconst 0, 1, []), (3, .istore_n 3, 1, []), (4, .iload_n 3, 1, []), (5, .iconst 1, 1, []), (6, .aload_n 0, 1, []), (7, .getfield 21, 3, [4, 1, 0, 195]), (10, .getfield 130, 3, [0, 1, 1, 115]), (13, .ishl, 1, []), (14, .if_icmp .ge 92, 3, []), (17, .aload_n 0, 1, []), (18, .getfield 28, 3, [4, 2, 0, 196]), (21, .invokevirtual 235, 3, [27, 0, 1, 345, 3]), (24, .iconst 0, 1, []), (25, .istore 4, 2, []), (27, .iload 4, 2, []), (29, .aload_n 0, 1, []), (30, .getfield 21, 3, [4, 1, 0, 195]), (33, .getfield 130, 3, [0, 1, 1, 115]), (36, .if_icmp .ge 47, 3, []), (39, .aload_n 0, 1, []), (40, .getfield 28, 3, [4, 2, 0, 196]), (43, .aload_n 0, 1, []), (44, .getfield 21, 3, [4, 1, 0, 195]), (47, .iload 4, 2, []), (49, .iload_n 3, 1, []), (50, .iload 4, 2, []), (52, .invokestatic 171, 3, [42, 2, 0, 428]), (55, .ifCond .eq 16, 3, []), (58, .aload_n 0, 1, []), (59, .getfield 21, 3, [4, 1, 0, 195]), (62, .getfield 114, 3, [0, 6, 1, 127]), (65, .iload 4, 2, []), (67, .iaload, 1, []), (68, .goto 4, 3, []), (71, .iconst 0, 1, []), (72, .iconst 0, 1, []), (73, .iconst 0, 1, []), (74, .invokevirtual 238, 3, [28, 5, 1, 350, 3]), (77, .iinc 4 1, 3, []), (80, .goto (-53), 3, []), (83, .aload_n 0, 1, []), (84, .getfield 28, 3, [4, 2, 0, 196]), (87, .getfield 168, 3, [3, 3, 1, 156]), (90, .iload_n 1, 1, []), (91, .invokestatic 171, 3, [42, 2, 0, 428]), (94, .ifCond .eq 6, 3, []), (97, .iinc 2 1, 3, []), (100, .iinc 3 1, 3, []), (103, .goto (-99), 3, []), (106, .iload_n 2, 1, []), (107, .ireturn, 1, [])]
def pm_w_64 : List (Nat × Instr × Nat × List Nat) := [(0, .aload_n 0, 1, []), (1, .iconst 0, 1, []), (2, .putfield 47, 3, [4, 6, 0, 200]), (5, .iload_n 1, 1, []), (6, .invokestatic 50, 3, [32, 1, 0, 220]), (9, .ifCond .ne 5, 3, []), (12, .iconst (-1), 1, []), (13, .ireturn, 1, []), (14, .iload_n 2, 1, []), (15, .invokestatic 54, 3, [33, 1, 0, 223]), (18, .ifCond .eq 9, 3, []), (21, .iload_n 3, 1, []), (22, .bipush 60, 2, []), (24, .if_icmp .le 6, 3, []), (27, .bipush (-2), 2, []), (29, .ireturn, 1, []), (30, .iload_n 3, 1, []), (31, .ifCond .ge 16, 3, []), (34, .aload_n 0, 1, []), (35, .iconst 4, 1, []), (36, .putfield 47, 3, [4, 6, 0, 200]), (39, .bipush (-10), 2, []), (41, .aload_n 0, 1, []), (42, .getfield 47, 3, [4, 6, 0, 200]), (45, .isub, 1, []), (46, .ireturn, 1, []), (47, .aload_n 0, 1, []), (48, .getfield 12, 3, [4, 0, 0, 194]), (51, .iload_n 1, 1, []), (52, .iload_n 2, 1, []), (53, .iload_n 3, 1, []), (54, .invokevirtual 187, 3, [17, 3, 1, 478, 2]), (57, .iconst 1, 1, []), (58, .ireturn, 1, [])]
def pm_w_65 : List (Nat × Instr × Nat × List Nat) := [(0, .iload_n 1, 1, []), (1, .invokestatic 50, 3, [32, 1, 0, 220]), (4, .ifCond .ne 5, 3, []), (7, .iconst (-1), 1, []), (8, .ireturn, 1, []), (9, .aload_n 0, 1, []), (10, .getfield 12, 3, [4, 0, 0, 194]), (13, .iload_n 1, 1, []), (14, .invokevirtual 190, 3, [14, 1, 1, 486, 2]), (17, .ifCond .ne 7, 3, []), (20, .iconst 1, 1, []), (21, .goto 4, 3, []), (24, .iconst 0, 1, []), (25, .istore_n 2, 1, []), (26, .aload_n 0, 1, []), (27, .getfield 12, 3, [4, 0, 0, 194]), (30, .iload_n 1, 1, []), (31, .iconst (-1), 1, []), (32, .iconst 0, 1, []), (33, .invokevirtual 187, 3, [17, 3, 1, 478, 2]), (36, .iload_n 2, 1, []), (37, .ifCond .eq 7, 3, []), (40, .iconst 1, 1, []), (41, .goto 4, 3, []), (44, .iconst 0, 1, []), (45, .ireturn, 1, [])]
def pm_w_66 : List (Nat × Instr × Nat × List Nat) := [(0, .aload_n 0, 1, []), (1, .iconst 0, 1, []), (2, .putfield 47, 3, [4, 6, 0, 200]), (5, .iload_n 1, 1, []), (6, .invokestatic 50, 3, [32, 1, 0, 220]), (9, .ifCond .ne 5, 3, []), (12, .iconst (-1), 1, []), (13, .ireturn, 1, []), (14, .aload_n 0, 1, []), (15, .getfield 12, 3, [4, 0, 0, 194]), (18, .iload_n 1, 1, []), (19, .invokevirtual 190, 3, [14, 1, 1, 486, 2]), (22, .ifCond .eq 11, 3, []), (25, .aload_n 0, 1, []), (26, .iconst 1, 1, []), (27, .putfield 47, 3, [4, 6, 0, 200]), (30, .goto 20, 3, []), (33, .aload_n 0, 1, []), (34, .getfield 12, 3, [4, 0, 0, 194]), (37, .iload_n 1, 1, []), (38, .iload_n 2, 1, []), (39, .invokevirtual 193, 3, [18, 2, 1, 491, 2]), (42, .ifCond .ne 8, 3, []), (45, .aload_n 0, 1, []), (46, .iconst 3, 1, []), (47, .putfield 47, 3, [4, 6, 0, 200]), (50, .aload_n 0, 1, []), (51, .getfield 47, 3, [4, 6, 0, 200]), (54, .ifCond .eq 11, 3, []), (57, .bipush (-10), 2, []), (59, .aload_n 0, 1, []), (60, .getfield 47, 3, [4, 6, 0, 200]), (63, .isub, 1, []), (64, .ireturn, 1, []), (65, .aload_n 0, 1, []), (66, .getfield 12, 3, [4, 0, 0, 194]), (69, .iload_n 1, 1, []), (70, .iload_n 2, 1, []), (71, .iload_n 3, 1, []), (72, .invokevirtual 196, 3, [19, 3, 1, 495, 2]), (75, .iconst 1, 1, []), (76, .ireturn, 1, [])]
def pm_w_67 : List (Nat × Instr × Nat × List Nat) := [(0, .aload_n 0, 1, []), (1, .iconst 0, 1, []), (2, .putfield 47, 3, [4, 6, 0, 200]), (5, .iload_n 1, 1, []), (6, .invokestatic 50, 3, [32, 1, 0, 220]), (9, .ifCond .eq 10, 3, []), (12, .iload_n 3, 1, []), (13, .invokestatic 54, 3, [33, 1, 0, 223]), (16, .ifCond .ne 7, 3, []), (19, .ldc2_w 182, 3, [469, 9223372036854775808]), (22, .lreturn, 1, []), (23, .aload_n 0, 1, []), (24, .aload_n 0, 1, []), (25, .getfield 12, 3, [4, 0, 0, 194]), (28, .iload_n 1, 1, []), (29, .iload_n 3, 1, []), (30, .invokevirtual 199, 3, [13, 2, 1, 503, 2]), (33, .putfield 47, 3, [4, 6, 0, 200]), (36, .aload_n 0, 1, []), (37, .getfield 47, 3, [4, 6, 0, 200]), (40, .ifCond .ne 20, 3, []), (43, .aload_n 0, 1, []), (44, .getfield 12, 3, [4, 0, 0, 194]), (47, .iload_n 1, 1, []), (48, .iload_n 2, 1, []), (49, .invokevirtual 193, 3, [18, 2, 1, 491, 2]), (52, .ifCond .ne 8, 3, []), (55, .aload_n 0, 1, []), (56, .iconst 3, 1, []), (57, .putfield 47, 3, [4, 6, 0, 200]), (60, .aload_n 0, 1, []), (61, .getfield 47, 3, [4, 6, 0, 200]), (64, .ifCond .ne 18, 3, []), (67, .aload_n 0, 1, []), (68, .getfield 12, 3, [4, 0, 0, 194]), (71, .getfield 202, 3, [2, 0, 1, 93]), (74, .iload_n 1, 1, []), (75, .aaload, 1, []), (76, .iload_n 2, 1, []), (77, .iaload, 1, []), (78, .i2l, 1, []), (79, .goto 6, 3, []), (82, .ldc2_w 182, 3, [469, 9223372036854775808]), (85, .lreturn, 1, [])]
def pm_w_68 : List (Nat × Instr × Nat × List Nat) := [(0, .aload_n 0, 1, []), (1, .iconst 0, 1, []), (2, .putfield 47, 3, [4, 6, 0, 200]), (5, .iload_n 1, 1, []), (6, .invokestatic 50, 3, [32, 1, 0, 220]), (9, .ifCond .eq 10, 3, []), (12, .iload_n 3, 1, []), (13, .invokestatic 50, 3, [32, 1, 0, 220]), (16, .ifCond .ne 5, 3, []), (19, .iconst (-1), 1, []), (20, .ireturn, 1, []), (21, .aload_n 0, 1, []), (22, .getfield 12, 3, [4, 0, 0, 194]), (25, .iload_n 1, 1, []), (26, .invokevirtual 190, 3, [14, 1, 1, 486, 2]), (29, .ifCond .ne 14, 3, []), (32, .aload_n 0, 1, []), (33, .getfield 12, 3, [4, 0, 0, 194]), (36, .iload_n 3, 1, []), (37, .invokevirtual 190, 3, [14, 1, 1, 486, 2]), (40, .ifCond .eq 11, 3, []), (43, .aload_n 0, 1, []), (44, .iconst 1, 1, []), (45, .putfield 47, 3, [4, 6, 0, 200]), (48, .goto 66, 3, []), (51, .aload_n 0, 1, []), (52, .getfield 12, 3, [4, 0, 0, 194]), (55, .getfield 206, 3, [2, 1, 1, 95]), (58, .iload_n 1, 1, []), (59, .iaload, 1, []), (60, .aload_n 0, 1, []), (61, .getfield 12, 3, [4, 0, 0, 194]), (64, .getfield 206, 3, [2, 1, 1, 95]), (67, .iload_n 3, 1, []), (68, .iaload, 1, []), (69, .if_icmp .eq 11, 3, []), (72, .aload_n 0, 1, []), (73, .iconst 2, 1, []), (74, .putfield 47, 3, [4, 6, 0, 200]), (77, .goto 37, 3, []), (80, .aload_n 0, 1, []), (81, .getfield 12, 3, [4, 0, 0, 194]), (84, .iload_n 1, 1, []), (85, .iload_n 2, 1, []), (86, .iload 5, 2, []), (88, .invokevirtual 209, 3, [15, 3, 1, 508, 2]), (91, .ifCond .eq 18, 3, []), (94, .aload_n 0, 1, []), (95, .getfield 12, 3, [4, 0, 0, 194]), (98, .iload_n 3, 1, []), (99, .iload 4, 2, []), (101, .iload 5, 2, []), (103, .invokevirtual 209, 3, [15, 3, 1, 508, 2]), (106, .ifCond .ne 8, 3, []), (109, .aload_n 0, 1, []), (110, .iconst 3, 1, []), (111, .putfield 47, 3, [4, 6, 0, 200]), (114, .aload_n 0, 1, []), (115, .getfield 47, 3, [4, 6, 0, 200]), (118, .ifCond .eq 11, 3, []), (121, .bipush (-10), 2, []), (123, .aload_n 0, 1, []), (124, .getfield 47, 3, [4, 6, 0, 200]), (127, .isub, 1, []), (128, .ireturn, 1, []), (129, .aload_n 0, 1, []), (130, .getfield 12, 3, [4, 0, 0, 194]), (133, .getfield 202, 3, [2, 0, 1, 93]), (136, .iload_n 1, 1, []), (137, .aaload, 1, []), (138, .iload_n 2, 1, []), (139, .aload_n 0, 1, []), (140, .getfield 12, 3, [4, 0, 0, 194]), (143, .getfield 202, 3, [2, 0, 1, 93]), (146, .iload_n 3, 1, []), (147, .aaload, 1, []), (148, .iload 4, 2, []), (150, .iload 5, 2, []), (152, .invokestatic 213, 3, [509]), (155, .iload 5, 2, []), (157, .ireturn, 1, [])]
def pm_w_69 : List (Nat × Instr × Nat × List Nat) := [(0, .aload_n 0, 1, []), (1, .getfield 21, 3, [4, 1, 0, 195]), (4, .iload_n 1, 1, []), (5, .invokevirtual 91, 3, [3, 1, 1, 301, 0]), (8, .ifCond .ne 5, 3, []), (11, .iconst (-1), 1, []), (12, .ireturn, 1, []), (13, .aload_n 0, 1, []), (14, .getfield 21, 3, [4, 1, 0, 195]), (17, .getfield 94, 3, [0, 4, 1, 123]), (20, .iload_n 1, 1, []), (21, .iaload, 1, []), (22, .lookupswitch 38 #[(1, 32), (2, 26)], 26, []), (48, .aload_n 0, 1, []), (49, .iload_n 1, 1, []), (50, .invokevirtual 219, 3, [70, 1, 0, 514, 4]), (53, .ireturn, 1, []), (54, .aload_n 0, 1, []), (55, .iload_n 1, 1, []), (56, .invokevirtual 222, 3, [72, 1, 0, 522, 4]), (59, .ireturn, 1, []), (60, .aload_n 0, 1, []), (61, .iload_n 1, 1, []), (62, .invokevirtual 225, 3, [73, 1, 0, 526, 4]), (65, .ireturn, 1, [])]
def pm_w_70 : List (Nat × Instr × Nat × List Nat) := [(0, .aload_n 0, 1, []), (1, .iconst 3, 1, []), (2, .invokevirtual 228, 3, [71, 1, 0, 518, 4]), (5, .aload_n 0, 1, []), (6, .iload_n 1, 1, []), (7, .invokevirtual 222, 3, [72, 1, 0, 522, 4]), (10, .istore_n 2, 1, []), (11, .iload_n 2, 1, []), (12, .aload_n 0, 1, []), (13, .iload_n 1, 1, []), (14, .invokevirtual 225, 3, [73, 1, 0, 526, 4]), (17, .iadd, 1, []), (18, .ireturn, 1, [])]
def pm_w_71 : List (Nat × Instr × Nat × List Nat) := [(0, .aload_n 0, 1, []), (1, .bipush 31, 2, []), (3, .aload_n 0, 1, []), (4, .getfield 43, 3, [4, 5, 0, 199]), (7, .imul, 1, []), (8, .iload_n 1, 1, []), (9, .iadd, 1, []), (10, .putfield 43, 3, [4, 5, 0, 199]), (13, .return_, 1, [])]
def pm_w_72 : List (Nat × Instr × Nat × List Nat) := [(0, .aload_n 0, 1, []), (1, .iconst 2, 1, []), (2, .invokevirtual 228, 3, [71, 1, 0, 518, 4]), (5, .aload_n 0, 1, []), (6, .iload_n 1, 1, []), (7, .invokevirtual 225, 3, [73, 1, 0, 526, 4]), (10, .bipush 100, 2, []), (12, .iadd, 1, []), (13, .ireturn, 1, [])]
def pm_w_73 : List (Nat × Instr × Nat × List Nat) := [(0, .aload_n 0, 1, []), (1, .iconst 1, 1, []), (2, .invokevirtual 228, 3, [71, 1, 0, 518, 4]), (5, .aload_n 0, 1, []), (6, .getfield 21, 3, [4, 1, 0, 195]), (9, .getfield 97, 3, [0, 5, 1, 125]), (12, .iload_n 1, 1, []), (13, .iaload, 1, []), (14, .ireturn, 1, [])]
def pm_w_74 : List (Nat × Instr × Nat × List Nat) := [(0, .aload_n 0, 1, []), (1, .getfield 21, 3, [4, 1, 0, 195]), (4, .iload_n 1, 1, []), (5, .invokevirtual 91, 3, [3, 1, 1, 301, 0]), (8, .ifCond .ne 5, 3, []), (11, .iconst (-1), 1, []), (12, .ireturn, 1, []), (13, .aload_n 0, 1, []), (14, .getfield 21, 3, [4, 1, 0, 195]), (17, .getfield 94, 3, [0, 4, 1, 123]), (20, .iload_n 1, 1, []), (21, .iaload, 1, []), (22, .iconst 2, 1, []), (23, .if_icmp .ne 11, 3, []), (26, .aload_n 0, 1, []), (27, .iconst 5, 1, []), (28, .invokevirtual 228, 3, [71, 1, 0, 518, 4]), (31, .bipush 30, 2, []), (33, .ireturn, 1, []), (34, .aload_n 0, 1, []), (35, .iconst 4, 1, []), (36, .invokevirtual 228, 3, [71, 1, 0, 518, 4]), (39, .iload_n 1, 1, []), (40, .ireturn, 1, [])]
def pm_w_75 : List (Nat × Instr × Nat × List Nat) := [(0, .aload_n 0, 1, []), (1, .iconst 0, 1, []), (2, .putfield 47, 3, [4, 6, 0, 200]), (5, .aload_n 0, 1, []), (6, .getfield 21, 3, [4, 1, 0, 195]), (9, .iload_n 1, 1, []), (10, .invokevirtual 91, 3, [3, 1, 1, 301, 0]), (13, .ifCond .ne 5, 3, []), (16, .iconst (-1), 1, []), (17, .ireturn, 1, []), (18, .iload_n 2, 1, []), (19, .ifCond .lt 8, 3, []), (22, .iload_n 2, 1, []), (23, .iconst 2, 1, []), (24, .if_icmp .le 6, 3, []), (27, .bipush (-2), 2, []), (29, .ireturn, 1, []), (30, .iload_n 2, 1, []), (31, .aload_n 0, 1, []), (32, .getfield 21, 3, [4, 1, 0, 195]), (35, .getfield 94, 3, [0, 4, 1, 123]), (38, .iload_n 1, 1, []), (39, .iaload, 1, []), (40, .if_icmp .le 16, 3, []), (43, .aload_n 0, 1, []), (44, .iconst 2, 1, []), (45, .putfield 47, 3, [4, 6, 0, 200]), (48, .bipush (-10), 2, []), (50, .aload_n 0, 1, []), (51, .getfield 47, 3, [4, 6, 0, 200]), (54, .isub, 1, []), (55, .ireturn, 1, []), (56, .iconst 1, 1, []), (57, .ireturn, 1, [])]
def pm_w_76 : List (Nat × Instr × Nat × List Nat) := [(0, .aload_n 0, 1, []), (1, .getfield 43, 3, [4, 5, 0, 199]), (4, .ireturn, 1, [])]
def pm_w_77 : List (Nat × Instr × Nat × List Nat) := [(0, .aload_n 0, 1, []), (1, .getfield 47, 3, [4, 6, 0, 200]), (4, .ireturn, 1, [])]
def pm_w_78 : List (Nat × Instr × Nat × List Nat) := [(0, .iload_n 1, 1, []), (1, .tableswitch 63 0 3 #[31, 39, 47, 55], 31, []), (32, .aload_n 0, 1, []), (33, .getfield 21, 3, [4, 1, 0, 195]), (36, .invokevirtual 78, 3, [1, 0, 1, 288, 0]), (39, .ireturn, 1, []), (40, .aload_n 0, 1, []), (41, .getfield 21, 3, [4, 1, 0, 195]), (44, .getfield 232, 3, [0, 0, 1, 113]), (47, .ireturn, 1, []), (48, .aload_n 0, 1, []), (49, .getfield 21, 3, [4, 1, 0, 195]), (52, .getfield 130, 3, [0, 1, 1, 115]), (55, .ireturn, 1, []), (56, .aload_n 0, 1, []), (57, .getfield 35, 3, [4, 3, 0, 197]), (60, .getfield 75, 3, [1, 0, 1, 181]), (63, .ireturn, 1, []), (64, .bipush (-2), 2, []), (66, .ireturn, 1, [])]
def pm_w_79 : List (Nat × Instr × Nat × List Nat) := [(0, .aload_n 0, 1, []), (1, .iconst 0, 1, []), (2, .putfield 64, 3, [5, 0, 0, 556]), (5, .iload_n 1, 1, []), (6, .invokestatic 83, 3, [80, 1, 0, 651]), (9, .ifCond .ne 5, 3, []), (12, .iconst (-1), 1, []), (13, .ireturn, 1, []), (14, .iload_n 2, 1, []), (15, .invokestatic 87, 3, [82, 1, 0, 657]), (18, .ifCond .ne 6, 3, []), (21, .bipush (-2), 2, []), (23, .ireturn, 1, []), (24, .aload_n 0, 1, []), (25, .iload_n 1, 1, []), (26, .iload_n 2, 1, []), (27, .iload_n 3, 1, []), (28, .iload 4, 2, []), (30, .invokevirtual 90, 3, [83, 4, 0, 660, 5]), (33, .istore 5, 2, []), (35, .iload 5, 2, []), (37, .ifCond .eq 10, 3, []), (40, .aload_n 0, 1, []), (41, .iload 5, 2, []), (43, .invokevirtual 94, 3, [84, 1, 0, 664, 5]), (46, .ireturn, 1, []), (47, .bipush 60, 2, []), (49, .iload_n 1, 1, []), (50, .imul, 1, []), (51, .iload_n 3, 1, []), (52, .iadd, 1, []), (53, .istore 6, 2, []), (55, .aload_n 0, 1, []), (56, .iload 6, 2, []), (58, .putfield 80, 3, [5, 12, 0, 568]), (61, .aload_n 0, 1, []), (62, .iload 6, 2, []), (64, .iload 4, 2, []), (66, .iadd, 1, []), (67, .invokevirtual 98, 3, [85, 1, 0, 668, 5]), (70, .ifCond .ne 14, 3, []), (73, .bipush (-100), 2, []), (75, .aload_n 0, 1, []), (76, .getfield 80, 3, [5, 12, 0, 568]), (79, .iload 6, 2, []), (81, .isub, 1, []), (82, .isub, 1, []), (83, .ireturn, 1, []), (84, .aload_n 0, 1, []), (85, .invokevirtual 101, 3, [91, 0, 0, 692, 5]), (88, .aload_n 0, 1, []), (89, .getfield 74, 3, [5, 5, 0, 561]), (92, .iconst 1, 1, []), (93, .isub, 1, []), (94, .ireturn, 1, [])]
def pm_w_80 : List (Nat × Instr × Nat × List Nat) := [(0, .iload_n 0, 1, []), (1, .iconst 0, 1, []), (2, .iconst 3, 1, []), (3, .invokestatic 70, 3, [81, 3, 0, 654]), (6, .ireturn, 1, [])]
def pm_w_81 : List (Nat × Instr × Nat × List Nat) := [(0, .iload_n 0, 1, []), (1, .iload_n 1, 1, []), (2, .if_icmp .lt 12, 3, []), (5, .iload_n 0, 1, []), (6, .iload_n 2, 1, []), (7, .if_icmp .gt 7, 3, []), (10, .iconst 1, 1, []), (11, .goto 4, 3, []), (14, .iconst 0, 1, []), (15, .ireturn, 1, [])]
def pm_w_82 : List (Nat × Instr × Nat × List Nat) := [(0, .iload_n 0, 1, []), (1, .iconst 0, 1, []), (2, .iconst 2, 1, []), (3, .invokestatic 70, 3, [81, 3, 0, 654]), (6, .ireturn, 1, [])]
def pm_w_83 : List (Nat × Instr × Nat × List Nat) := [(0, .aload_n 0, 1, []), (1, .getfield 9, 3, [5, 2, 0, 558]), (4, .iload_n 1, 1, []), (5, .iaload, 1, []), (6, .bipush (-9), 2, []), (8, .if_icmp .eq 15, 3, []), (11, .aload_n 0, 1, []), (12, .getfield 9, 3, [5, 2, 0, 558]), (15, .iload_n 1, 1, []), (16, .iaload, 1, []), (17, .iload_n 2, 1, []), (18, .if_icmp .eq 5, 3, []), (21, .iconst 2, 1, []), (22, .ireturn, 1, []), (23, .aload_n 0, 1, []), (24, .getfield 9, 3, [5, 2, 0, 558]), (27, .iload_n 1, 1, []), (28, .iaload, 1, []), (29, .bipush (-9), 2, []), (31, .if_icmp .ne 5, 3, []), (34, .iconst 1, 1, []), (35, .ireturn, 1, []), (36, .iload 4, 2, []), (38, .ifCond .ge 5, 3, []), (41, .iconst 4, 1, []), (42, .ireturn, 1, []), (43, .iload_n 3, 1, []), (44, .ifCond .lt 26, 3, []), (47, .iload_n 3, 1, []), (48, .aload_n 0, 1, []), (49, .getfield 13, 3, [5, 3, 0, 559]), (52, .iload_n 1, 1, []), (53, .iaload, 1, []), (54, .if_icmp .gt 16, 3, []), (57, .iload 4, 2, []), (59, .aload_n 0, 1, []), (60, .getfield 13, 3, [5, 3, 0, 559]), (63, .iload_n 1, 1, []), (64, .iaload, 1, []), (65, .iload_n 3, 1, []), (66, .isub, 1, []), (67, .if_icmp .le 7, 3, []), (70, .iconst 3, 1, []), (71, .goto 4, 3, []), (74, .iconst 0, 1, []), (75, .ireturn, 1, [])]
def pm_w_84 : List (Nat × Instr × Nat × List Nat) := [(0, .aload_n 0, 1, []), (1, .iload_n 1, 1, []), (2, .putfield 64, 3, [5, 0, 0, 556]), (5, .bipush (-10), 2, []), (7, .iload_n 1, 1, []), (8, .isub, 1, []), (9, .ireturn, 1, [])]
def pm_w_85 : List (Nat × Instr × Nat × List Nat) := [(0, .aload_n 0, 1, []), (1, .iload_n 1, 1, []), (2, .bipush 118, 2, []), (4, .invokevirtual 113, 3, [86, 2, 0, 672, 5]), (7, .ifCond .ne 5, 3, []), (10, .iconst 0, 1, []), (11, .ireturn, 1, []), (12, .aload_n 0, 1, []), (13, .aload_n 0, 1, []), (14, .iload_n 1, 1, []), (15, .iconst 2, 1, []), (16, .bipush 6, 2, []), (18, .invokevirtual 117, 3, [87, 3, 0, 676, 5]), (21, .putfield 104, 3, [5, 13, 0, 569]), (24, .aload_n 0, 1, []), (25, .getfield 104, 3, [5, 13, 0, 569]), (28, .bipush (-9), 2, []), (30, .if_icmp .ne 5, 3, []), (33, .iconst 0, 1, []), (34, .ireturn, 1, []), (35, .iconst 0, 1, []), (36, .istore_n 2, 1, []), (37, .iload_n 2, 1, []), (38, .aload_n 0, 1, []), (39, .getfield 104, 3, [5, 13, 0, 569]), (42, .if_icmp .ge 30, 3, []), (45, .aload_n 0, 1, []), (46, .iload_n 1, 1, []), (47, .bipush 44, 2, []), (49, .invokevirtual 113, 3, [86, 2, 0, 672, 5]), (52, .ifCond .eq 12, 3, []), (55, .aload_n 0, 1, []), (56, .iload_n 1, 1, []), (57, .iload_n 2, 1, []), (58, .invokevirtual 121, 3, [88, 2, 0, 680, 5]), (61, .ifCond .ne 5, 3, []), (64, .iconst 0, 1, []), (65, .ireturn, 1, []), (66, .iinc 2 1, 3, []), (69, .goto (-32), 3, []), (72, .iconst 0, 1, []), (73, .istore_n 2, 1, []), (74, .iload_n 2, 1, []), (75, .aload_n 0, 1, []), (76, .getfield 104, 3, [5, 13, 0, 569]), (79, .iconst 1, 1, []), (80, .isub, 1, []), (81, .if_icmp .ge 30, 3, []), (84, .aload_n 0, 1, []), (85, .iload_n 1, 1, []), (86, .bipush 45, 2, []), (88, .invokevirtual 113, 3, [86, 2, 0, 672, 5]), (91, .ifCond .eq 12, 3, []), (94, .aload_n 0, 1, []), (95, .iload_n 1, 1, []), (96, .iload_n 2, 1, []), (97, .invokevirtual 123, 3, [89, 2, 0, 684, 5]), (100, .ifCond .ne 5, 3, []), (103, .iconst 0, 1, []), (104, .ireturn, 1, []), (105, .iinc 2 1, 3, []), (108, .goto (-34), 3, []), (111, .aload_n 0, 1, []), (112, .iload_n 1, 1, []), (113, .bipush 59, 2, []), (115, .invokevirtual 113, 3, [86, 2, 0, 672, 5]), (118, .ifCond .eq 15, 3, []), (121, .aload_n 0, 1, []), (122, .iload_n 1, 1, []), (123, .invokevirtual 126, 3, [90, 1, 0, 688, 5]), (126, .ifCond .eq 7, 3, []), (129, .iconst 1, 1, []), (130, .goto 4, 3, []), (133, .iconst 0, 1, []), (134, .ireturn, 1, [])]
def pm_w_86 : List (Nat × Instr × Nat × List Nat) := [(0, .aload_n 0, 1, []), (1, .getfield 80, 3, [5, 12, 0, 568]), (4, .iload_n 1, 1, []), (5, .if_icmp .ge 16, 3, []), (8, .aload_n 0, 1, []), (9, .getfield 16, 3, [5, 4, 0, 560]), (12, .aload_n 0, 1, []), (13, .getfield 80, 3, [5, 12, 0, 568]), (16, .iaload, 1, []), (17, .iload_n 2, 1, []), (18, .if_icmp .eq 5, 3, []), (21, .iconst 0, 1, []), (22, .ireturn, 1, []), (23, .aload_n 0, 1, []), (24, .dup, 1, []), (25, .getfield 80, 3, [5, 12, 0, 568]), (28, .iconst 1, 1, []), (29, .iadd, 1, []), (30, .putfield 80, 3, [5, 12, 0, 568]), (33, .iconst 1, 1, []), (34, .ireturn, 1, [])]
def pm_w_87 : List (Nat × Instr × Nat × List Nat) := [(0, .aload_n 0, 1, []), (1, .getfield 80, 3, [5, 12, 0, 568]), (4, .iload_n 1, 1, []), (5, .if_icmp .ge 26, 3, []), (8, .aload_n 0, 1, []), (9, .getfield 16, 3, [5, 4, 0, 560]), (12, .aload_n 0, 1, []), (13, .getfield 80, 3, [5, 12, 0, 568]), (16, .iaload, 1, []), (17, .bipush 48, 2, []), (19, .iload_n 2, 1, []), (20, .iadd, 1, []), (21, .bipush 48, 2, []), (23, .iload_n 3, 1, []), (24, .iadd, 1, []), (25, .invokestatic 70, 3, [81, 3, 0, 654]), (28, .ifCond .ne 6, 3, []), (31, .bipush (-9), 2, []), (33, .ireturn, 1, []), (34, .aload_n 0, 1, []), (35, .dup, 1, []), (36, .getfield 80, 3, [5, 12, 0, 568]), (39, .iconst 1, 1, []), (40, .iadd, 1, []), (41, .putfield 80, 3, [5, 12, 0, 568]), (44, .aload_n 0, 1, []), (45, .getfield 16, 3, [5, 4, 0, 560]), (48, .aload_n 0, 1, []), (49, .getfield 80, 3, [5, 12, 0, 568]), (52, .iconst 1, 1, []), (53, .isub, 1, []), (54, .iaload, 1, []), (55, .bipush 48, 2, []), (57, .isub, 1, []), (58, .ireturn, 1, [])]
def pm_w_88 : List (Nat × Instr × Nat × List Nat) := [(0, .aload_n 0, 1, []), (1, .getfield 34, 3, [5, 15, 0, 571]), (4, .iload_n 2, 1, []), (5, .aload_n 0, 1, []), (6, .iload_n 1, 1, []), (7, .iconst 0, 1, []), (8, .bipush 9, 2, []), (10, .invokevirtual 117, 3, [87, 3, 0, 676, 5]), (13, .iastore, 1, []), (14, .aload_n 0, 1, []), (15, .getfield 34, 3, [5, 15, 0, 571]), (18, .iload_n 2, 1, []), (19, .iaload, 1, []), (20, .bipush (-9), 2, []), (22, .if_icmp .ne 5, 3, []), (25, .iconst 0, 1, []), (26, .ireturn, 1, []), (27, .aload_n 0, 1, []), (28, .getfield 37, 3, [5, 16, 0, 572]), (31, .iload_n 2, 1, []), (32, .aload_n 0, 1, []), (33, .iload_n 1, 1, []), (34, .iconst 0, 1, []), (35, .bipush 9, 2, []), (37, .invokevirtual 117, 3, [87, 3, 0, 676, 5]), (40, .iastore, 1, []), (41, .aload_n 0, 1, []), (42, .getfield 37, 3, [5, 16, 0, 572]), (45, .iload_n 2, 1, []), (46, .iaload, 1, []), (47, .bipush (-9), 2, []), (49, .if_icmp .eq 7, 3, []), (52, .iconst 1, 1, []), (53, .goto 4, 3, []), (56, .iconst 0, 1, []), (57, .ireturn, 1, [])]
def pm_w_89 : List (Nat × Instr × Nat × List Nat) := [(0, .aload_n 0, 1, []), (1, .getfield 80, 3, [5, 12, 0, 568]), (4, .iload_n 1, 1, []), (5, .if_icmp .ge 15, 3, []), (8, .aload_n 0, 1, []), (9, .getfield 16, 3, [5, 4, 0, 560]), (12, .aload_n 0, 1, []), (13, .getfield 80, 3, [5, 12, 0, 568]), (16, .iaload, 1, []), (17, .goto 4, 3, []), (20, .iconst 0, 1, []), (21, .istore_n 3, 1, []), (22, .aload_n 0, 1, []), (23, .getfield 40, 3, [5, 17, 0, 573]), (26, .iload_n 2, 1, []), (27, .iload_n 3, 1, []), (28, .bipush 112, 2, []), (30, .if_icmp .ne 7, 3, []), (33, .iconst 0, 1, []), (34, .goto 25, 3, []), (37, .iload_n 3, 1, []), (38, .bipush 99, 2, []), (40, .if_icmp .ne 7, 3, []), (43, .iconst 1, 1, []), (44, .goto 15, 3, []), (47, .iload_n 3, 1, []), (48, .bipush 102, 2, []), (50, .if_icmp .ne 7, 3, []), (53, .iconst 2, 1, []), (54, .goto 5, 3, []), (57, .bipush (-9), 2, []), (59, .iastore, 1, []), (60, .aload_n 0, 1, []), (61, .getfield 40, 3, [5, 17, 0, 573]), (64, .iload_n 2, 1, []), (65, .iaload, 1, []), (66, .bipush (-9), 2, []), (68, .if_icmp .ne 5, 3, []), (71, .iconst 0, 1, []), (72, .ireturn, 1, []), (73, .aload_n 0, 1, []), (74, .dup, 1, []), (75, .getfield 80, 3, [5, 12, 0, 568]), (78, .iconst 1, 1, []), (79, .iadd, 1, []), (80, .putfield 80, 3, [5, 12, 0, 568]), (83, .aload_n 0, 1, []), (84, .getfield 43, 3, [5, 18, 0, 574]), (87, .iload_n 2, 1, []), (88, .aload_n 0, 1, []), (89, .iload_n 1, 1, []), (90, .iconst 0, 1, []), (91, .bipush 9, 2, []), (93, .invokevirtual 117, 3, [87, 3, 0, 676, 5]), (96, .iastore, 1, []), (97, .aload_n 0, 1, []), (98, .getfield 43, 3, [5, 18, 0, 574]), (101, .iload_n 2, 1, []), (102, .iaload, 1, []), (103, .bipush (-9), 2, []), (105, .if_icmp .eq 7, 3, []), (108, .iconst 1, 1, []), (109, .goto 4, 3, []), (112, .iconst 0, 1, []), (113, .ireturn, 1, [])]
def pm_w_90 : List (Nat × Instr × Nat × List Nat) := [(0, .aload_n 0, 1, []), (1, .iconst 0, 1, []), (2, .putfield 107, 3, [5, 14, 0, 570]), (5, .aload_n 0, 1, []), (6, .getfield 107, 3, [5, 14, 0, 570]), (9, .ifCond .eq 20, 3, []), (12, .aload_n 0, 1, []), (13, .getfield 107, 3, [5, 14, 0, 570]), (16, .bipush 8, 2, []), (18, .if_icmp .ge 51, 3, []), (21, .aload_n 0, 1, []), (22, .getfield 80, 3, [5, 12, 0, 568]), (25, .iload_n 1, 1, []), (26, .if_icmp .ge 43, 3, []), (29, .aload_n 0, 1, []), (30, .iload_n 1, 1, []), (31, .iconst 0, 1, []), (32, .bipush 9, 2, []), (34, .invokevirtual 117, 3, [87, 3, 0, 676, 5]), (37, .istore_n 2, 1, []), (38, .iload_n 2, 1, []), (39, .bipush (-9), 2, []), (41, .if_icmp .ne 5, 3, []), (44, .iconst 0, 1, []), (45, .ireturn, 1, []), (46, .aload_n 0, 1, []), (47, .getfield 46, 3, [5, 19, 0, 575]), (50, .aload_n 0, 1, []), (51, .getfield 107, 3, [5, 14, 0, 570]), (54, .iload_n 2, 1, []), (55, .iastore, 1, []), (56, .aload_n 0, 1, []), (57, .dup, 1, []), (58, .getfield 107, 3, [5, 14, 0, 570]), (61, .iconst 1, 1, []), (62, .iadd, 1, []), (63, .putfield 107, 3, [5, 14, 0, 570]), (66, .goto (-61), 3, []), (69, .aload_n 0, 1, []), (70, .getfield 80, 3, [5, 12, 0, 568]), (73, .iload_n 1, 1, []), (74, .if_icmp .ne 7, 3, []), (77, .iconst 1, 1, []), (78, .goto 4, 3, []), (81, .iconst 0, 1, []), (82, .ireturn, 1, [])]
def pm_w_91 : List (Nat × Instr × Nat × List Nat) := [(0, .aload_n 0, 1, []), (1, .aload_n 0, 1, []), (2, .getfield 104, 3, [5, 13, 0, 569]), (5, .putfield 74, 3, [5, 5, 0, 561]), (8, .iconst 0, 1, []), (9, .istore_n 1, 1, []), (10, .iload_n 1, 1, []), (11, .aload_n 0, 1, []), (12, .getfield 74, 3, [5, 5, 0, 561]), (15, .if_icmp .ge 33, 3, []), (18, .aload_n 0, 1, []), (19, .getfield 19, 3, [5, 7, 0, 563]), (22, .iload_n 1, 1, []), (23, .aload_n 0, 1, []), (24, .getfield 34, 3, [5, 15, 0, 571]), (27, .iload_n 1, 1, []), (28, .iaload, 1, []), (29, .iastore, 1, []), (30, .aload_n 0, 1, []), (31, .getfield 22, 3, [5, 8, 0, 564]), (34, .iload_n 1, 1, []), (35, .aload_n 0, 1, []), (36, .getfield 37, 3, [5, 16, 0, 572]), (39, .iload_n 1, 1, []), (40, .iaload, 1, []), (41, .iastore, 1, []), (42, .iinc 1 1, 3, []), (45, .goto (-35), 3, []), (48, .iconst 0, 1, []), (49, .istore_n 1, 1, []), (50, .iload_n 1, 1, []), (51, .aload_n 0, 1, []), (52, .getfield 74, 3, [5, 5, 0, 561]), (55, .iconst 1, 1, []), (56, .isub, 1, []), (57, .if_icmp .ge 33, 3, []), (60, .aload_n 0, 1, []), (61, .getfield 25, 3, [5, 9, 0, 565]), (64, .iload_n 1, 1, []), (65, .aload_n 0, 1, []), (66, .getfield 40, 3, [5, 17, 0, 573]), (69, .iload_n 1, 1, []), (70, .iaload, 1, []), (71, .iastore, 1, []), (72, .aload_n 0, 1, []), (73, .getfield 28, 3, [5, 10, 0, 566]), (76, .iload_n 1, 1, []), (77, .aload_n 0, 1, []), (78, .getfield 43, 3, [5, 18, 0, 574]), (81, .iload_n 1, 1, []), (82, .iaload, 1, []), (83, .iastore, 1, []), (84, .iinc 1 1, 3, []), (87, .goto (-37), 3, []), (90, .aload_n 0, 1, []), (91, .aload_n 0, 1, []), (92, .getfield 107, 3, [5, 14, 0, 570]), (95, .putfield 77, 3, [5, 6, 0, 562]), (98, .iconst 0, 1, []), (99, .istore_n 1, 1, []), (100, .iload_n 1, 1, []), (101, .aload_n 0, 1, []), (102, .getfield 77, 3, [5, 6, 0, 562]), (105, .if_icmp .ge 21, 3, []), (108, .aload_n 0, 1, []), (109, .getfield 31, 3, [5, 11, 0, 567]), (112, .iload_n 1, 1, []), (113, .aload_n 0, 1, []), (114, .getfield 46, 3, [5, 19, 0, 575]), (117, .iload_n 1, 1, []), (118, .iaload, 1, []), (119, .iastore, 1, []), (120, .iinc 1 1, 3, []), (123, .goto (-23), 3, []), (126, .aload_n 0, 1, []), (127, .iconst 0, 1, []), (128, .putfield 110, 3, [5, 26, 0, 582]), (131, .return_, 1, [])]
def pm_w_92 : List (Nat × Instr × Nat × List Nat) := [(0, .aload_n 0, 1, []), (1, .iload_n 1, 1, []), (2, .invokevirtual 129, 3, [93, 1, 0, 700, 5]), (5, .ifCond .ne 5, 3, []), (8, .iconst (-1), 1, []), (9, .ireturn, 1, []), (10, .iload_n 2, 1, []), (11, .ifCond .ne 12, 3, []), (14, .aload_n 0, 1, []), (15, .getfield 19, 3, [5, 7, 0, 563]), (18, .iload_n 1, 1, []), (19, .iaload, 1, []), (20, .goto 19, 3, []), (23, .iload_n 2, 1, []), (24, .iconst 1, 1, []), (25, .if_icmp .ne 12, 3, []), (28, .aload_n 0, 1, []), (29, .getfield 22, 3, [5, 8, 0, 564]), (32, .iload_n 1, 1, []), (33, .iaload, 1, []), (34, .goto 5, 3, []), (37, .bipush (-2), 2, []), (39, .ireturn, 1, [])]
def pm_w_93 : List (Nat × Instr × Nat × List Nat) := [(0, .iload_n 1, 1, []), (1, .ifCond .lt 15, 3, []), (4, .iload_n 1, 1, []), (5, .aload_n 0, 1, []), (6, .getfield 74, 3, [5, 5, 0, 561]), (9, .if_icmp .ge 7, 3, []), (12, .iconst 1, 1, []), (13, .goto 4, 3, []), (16, .iconst 0, 1, []), (17, .ireturn, 1, [])]
def pm_w_94 : List (Nat × Instr × Nat × List Nat) := [(0, .aload_n 0, 1, []), (1, .iload_n 1, 1, []), (2, .invokevirtual 132, 3, [95, 1, 0, 708, 5]), (5, .ifCond .ne 5, 3, []), (8, .iconst (-1), 1, []), (9, .ireturn, 1, []), (10, .iload_n 2, 1, []), (11, .ifCond .ne 12, 3, []), (14, .aload_n 0, 1, []), (15, .getfield 25, 3, [5, 9, 0, 565]), (18, .iload_n 1, 1, []), (19, .iaload, 1, []), (20, .goto 19, 3, []), (23, .iload_n 2, 1, []), (24, .iconst 1, 1, []), (25, .if_icmp .ne 12, 3, []), (28, .aload_n 0, 1, []), (29, .getfield 28, 3, [5, 10, 0, 566]), (32, .iload_n 1, 1, []), (33, .iaload, 1, []), (34, .goto 5, 3, []), (37, .bipush (-2), 2, []), (39, .ireturn, 1, [])]
def pm_w_95 : List (Nat × Instr × Nat × List Nat) := [(0, .iload_n 1, 1, []), (1, .ifCond .lt 17, 3, []), (4, .iload_n 1, 1, []), (5, .aload_n 0, 1, []), (6, .getfield 74, 3, [5, 5, 0, 561]), (9, .iconst 1, 1, []), (10, .isub, 1, []), (11, .if_icmp .ge 7, 3, []), (14, .iconst 1, 1, []), (15, .goto 4, 3, []), (18, .iconst 0, 1, []), (19, .ireturn, 1, [])]
def pm_w_96 : List (Nat × Instr × Nat × List Nat) := [(0, .aload_n 0, 1, []), (1, .iload_n 1, 1, []), (2, .invokevirtual 132, 3, [95, 1, 0, 708, 5]), (5, .ifCond .ne 5, 3, []), (8, .iconst (-1), 1, []), (9, .ireturn, 1, []), (10, .iload_n 2, 1, []), (11, .iconst 0, 1, []), (12, .bipush 99, 2, []), (14, .invokestatic 70, 3, [81, 3, 0, 654]), (17, .ifCond .eq 12, 3, []), (20, .aload_n 0, 1, []), (21, .iload_n 1, 1, []), (22, .iload_n 2, 1, []), (23, .invokevirtual 135, 3, [97, 2, 0, 716, 5]), (26, .goto 5, 3, []), (29, .bipush (-2), 2, []), (31, .ireturn, 1, [])]
def pm_w_97 : List (Nat × Instr × Nat × List Nat) := [(0, .aload_n 0, 1, []), (1, .getfield 28, 3, [5, 10, 0, 566]), (4, .iload_n 1, 1, []), (5, .iaload, 1, []), (6, .iload_n 2, 1, []), (7, .if_icmp .ge 12, 3, []), (10, .aload_n 0, 1, []), (11, .getfield 28, 3, [5, 10, 0, 566]), (14, .iload_n 1, 1, []), (15, .iaload, 1, []), (16, .goto 4, 3, []), (19, .iload_n 2, 1, []), (20, .istore_n 3, 1, []), (21, .aload_n 0, 1, []), (22, .getfield 25, 3, [5, 9, 0, 565]), (25, .iload_n 1, 1, []), (26, .iaload, 1, []), (27, .iconst 1, 1, []), (28, .if_icmp .ne 15, 3, []), (31, .iload_n 3, 1, []), (32, .ifCond .le 9, 3, []), (35, .iload_n 3, 1, []), (36, .iconst 1, 1, []), (37, .isub, 1, []), (38, .goto 4, 3, []), (41, .iconst 0, 1, []), (42, .ireturn, 1, []), (43, .aload_n 0, 1, []), (44, .getfield 25, 3, [5, 9, 0, 565]), (47, .iload_n 1, 1, []), (48, .iaload, 1, []), (49, .ifCond .ne 7, 3, []), (52, .iload_n 3, 1, []), (53, .goto 17, 3, []), (56, .iconst 2, 1, []), (57, .iload_n 3, 1, []), (58, .imul, 1, []), (59, .iload_n 2, 1, []), (60, .if_icmp .ge 9, 3, []), (63, .iconst 2, 1, []), (64, .iload_n 3, 1, []), (65, .imul, 1, []), (66, .goto 4, 3, []), (69, .iload_n 2, 1, []), (70, .ireturn, 1, [])]
def pm_w_98 : List (Nat × Instr × Nat × List Nat) := [(0, .aload_n 0, 1, []), (1, .iload_n 1, 1, []), (2, .invokevirtual 132, 3, [95, 1, 0, 708, 5]), (5, .ifCond .ne 5, 3, []), (8, .iconst (-1), 1, []), (9, .ireturn, 1, []), (10, .iload_n 2, 1, []), (11, .iconst 0, 1, []), (12, .bipush 9, 2, []), (14, .invokestatic 70, 3, [81, 3, 0, 654]), (17, .ifCond .ne 6, 3, []), (20, .bipush (-2), 2, []), (22, .ireturn, 1, []), (23, .aload_n 0, 1, []), (24, .getfield 28, 3, [5, 10, 0, 566]), (27, .iload_n 1, 1, []), (28, .iaload, 1, []), (29, .istore_n 3, 1, []), (30, .aload_n 0, 1, []), (31, .getfield 28, 3, [5, 10, 0, 566]), (34, .iload_n 1, 1, []), (35, .iload_n 2, 1, []), (36, .iastore, 1, []), (37, .iload_n 3, 1, []), (38, .ireturn, 1, [])]
def pm_w_99 : List (Nat × Instr × Nat × List Nat) := [(0, .aload_n 0, 1, []), (1, .getfield 74, 3, [5, 5, 0, 561]), (4, .ifCond .ne 6, 3, []), (7, .bipush (-3), 2, []), (9, .ireturn, 1, []), (10, .aload_n 0, 1, []), (11, .iload_n 1, 1, []), (12, .invokevirtual 139, 3, [100, 1, 0, 728, 5]), (15, .ifCond .eq 13, 3, []), (18, .iload_n 2, 1, []), (19, .iconst 0, 1, []), (20, .bipush 9, 2, []), (22, .invokestatic 70, 3, [81, 3, 0, 654]), (25, .ifCond .ne 6, 3, []), (28, .bipush (-2), 2, []), (30, .ireturn, 1, []), (31, .aload_n 0, 1, []), (32, .getfield 31, 3, [5, 11, 0, 567]), (35, .iload_n 1, 1, []), (36, .iaload, 1, []), (37, .istore_n 3, 1, []), (38, .aload_n 0, 1, []), (39, .getfield 31, 3, [5, 11, 0, 567]), (42, .iload_n 1, 1, []), (43, .iload_n 2, 1, []), (44, .iastore, 1, []), (45, .iload_n 3, 1, []), (46, .ireturn, 1, [])]
def pm_w_100 : List (Nat × Instr × Nat × List Nat) := [(0, .iload_n 1, 1, []), (1, .ifCond .lt 15, 3, []), (4, .iload_n 1, 1, []), (5, .aload_n 0, 1, []), (6, .getfield 77, 3, [5, 6, 0, 562]), (9, .if_icmp .ge 7, 3, []), (12, .iconst 1, 1, []), (13, .goto 4, 3, []), (16, .iconst 0, 1, []), (17, .ireturn, 1, [])]
def pm_w_101 : List (Nat × Instr × Nat × List Nat) := [(0, .aload_n 0, 1, []), (1, .iload_n 1, 1, []), (2, .invokevirtual 129, 3, [93, 1, 0, 700, 5]), (5, .ifCond .ne 5, 3, []), (8, .iconst (-1), 1, []), (9, .ireturn, 1, []), (10, .iload_n 2, 1, []), (11, .iconst 0, 1, []), (12, .aload_n 0, 1, []), (13, .getfield 77, 3, [5, 6, 0, 562]), (16, .invokestatic 70, 3, [81, 3, 0, 654]), (19, .ifCond .ne 6, 3, []), (22, .bipush (-2), 2, []), (24, .ireturn, 1, []), (25, .aload_n 0, 1, []), (26, .iload_n 2, 1, []), (27, .iconst 0, 1, []), (28, .invokevirtual 167, 3, [102, 2, 0, 736, 5]), (31, .aload_n 0, 1, []), (32, .getfield 49, 3, [5, 20, 0, 576]), (35, .iload_n 1, 1, []), (36, .iaload, 1, []), (37, .ireturn, 1, [])]
def pm_w_102 : List (Nat × Instr × Nat × List Nat) := [(0, .aload_n 0, 1, []), (1, .invokevirtual 161, 3, [103, 0, 0, 740, 5]), (4, .iconst 0, 1, []), (5, .istore_n 3, 1, []), (6, .iload_n 3, 1, []), (7, .iload_n 1, 1, []), (8, .if_icmp .ge 21, 3, []), (11, .aload_n 0, 1, []), (12, .iload_n 3, 1, []), (13, .aload_n 0, 1, []), (14, .getfield 31, 3, [5, 11, 0, 567]), (17, .iload_n 3, 1, []), (18, .iaload, 1, []), (19, .iload_n 2, 1, []), (20, .invokevirtual 164, 3, [104, 3, 0, 744, 5]), (23, .iinc 3 1, 3, []), (26, .goto (-20), 3, []), (29, .return_, 1, [])]
def pm_w_103 : List (Nat × Instr × Nat × List Nat) := [(0, .iconst 0, 1, []), (1, .istore_n 1, 1, []), (2, .iload_n 1, 1, []), (3, .aload_n 0, 1, []), (4, .getfield 74, 3, [5, 5, 0, 561]), (7, .if_icmp .ge 23, 3, []), (10, .aload_n 0, 1, []), (11, .getfield 49, 3, [5, 20, 0, 576]), (14, .iload_n 1, 1, []), (15, .iconst 0, 1, []), (16, .iastore, 1, []), (17, .aload_n 0, 1, []), (18, .getfield 52, 3, [5, 21, 0, 577]), (21, .iload_n 1, 1, []), (22, .iconst 0, 1, []), (23, .iastore, 1, []), (24, .iinc 1 1, 3, []), (27, .goto (-25), 3, []), (30, .aload_n 0, 1, []), (31, .iconst 0, 1, []), (32, .putfield 142, 3, [5, 22, 0, 578]), (35, .aload_n 0, 1, []), (36, .bipush (-9), 2, []), (38, .putfield 145, 3, [5, 23, 0, 579]), (41, .aload_n 0, 1, []), (42, .bipush (-9), 2, []), (44, .putfield 148, 3, [5, 24, 0, 580]), (47, .return_, 1, [])]
def pm_w_104 : List (Nat × Instr × Nat × List Nat) := [(0, .iload_n 2, 1, []), (1, .istore 4, 2, []), (3, .iconst 0, 1, []), (4, .istore 5, 2, []), (6, .iload 5, 2, []), (8, .aload_n 0, 1, []), (9, .getfield 74, 3, [5, 5, 0, 561]), (12, .if_icmp .ge 51, 3, []), (15, .iload 5, 2, []), (17, .aload_n 0, 1, []), (18, .getfield 74, 3, [5, 5, 0, 561]), (21, .iconst 1, 1, []), (22, .isub, 1, []), (23, .if_icmp .ne 7, 3, []), (26, .iconst 0, 1, []), (27, .goto 12, 3, []), (30, .aload_n 0, 1, []), (31, .iload 5, 2, []), (33, .iload 4, 2, []), (35, .iload_n 3, 1, []), (36, .invokevirtual 154, 3, [105, 3, 0, 748, 5]), (39, .istore 6, 2, []), (41, .aload_n 0, 1, []), (42, .iload 5, 2, []), (44, .iload 4, 2, []), (46, .iload 6, 2, []), (48, .isub, 1, []), (49, .iload_n 1, 1, []), (50, .invokevirtual 157, 3, [106, 3, 0, 752, 5]), (53, .iload 6, 2, []), (55, .istore 4, 2, []), (57, .iinc 5 1, 3, []), (60, .goto (-54), 3, []), (63, .return_, 1, [])]
def pm_w_105 : List (Nat × Instr × Nat × List Nat) := [(0, .aload_n 0, 1, []), (1, .getfield 151, 3, [5, 25, 0, 581]), (4, .iload_n 1, 1, []), (5, .ishr, 1, []), (6, .iconst 1, 1, []), (7, .iand, 1, []), (8, .iconst 1, 1, []), (9, .if_icmp .ne 5, 3, []), (12, .iconst 0, 1, []), (13, .ireturn, 1, []), (14, .iload_n 3, 1, []), (15, .iload_n 1, 1, []), (16, .ishr, 1, []), (17, .iconst 1, 1, []), (18, .iand, 1, []), (19, .iconst 1, 1, []), (20, .if_icmp .ne 7, 3, []), (23, .iload_n 2, 1, []), (24, .goto 9, 3, []), (27, .aload_n 0, 1, []), (28, .iload_n 1, 1, []), (29, .iload_n 2, 1, []), (30, .invokevirtual 135, 3, [97, 2, 0, 716, 5]), (33, .ireturn, 1, [])]
def pm_w_106 : List (Nat × Instr × Nat × List Nat) := [(0, .aload_n 0, 1, []), (1, .getfield 49, 3, [5, 20, 0, 576]), (4, .iload_n 1, 1, []), (5, .aload_n 0, 1, []), (6, .getfield 49, 3, [5, 20, 0, 576]), (9, .iload_n 1, 1, []), (10, .iaload, 1, []), (11, .ifCond .le 14, 3, []), (14, .aload_n 0, 1, []), (15, .getfield 49, 3, [5, 20, 0, 576]), (18, .iload_n 1, 1, []), (19, .iaload, 1, []), (20, .iconst 1, 1, []), (21, .isub, 1, []), (22, .goto 4, 3, []), (25, .iconst 0, 1, []), (26, .iload_n 2, 1, []), (27, .iadd, 1, []), (28, .iastore, 1, []), (29, .aload_n 0, 1, []), (30, .getfield 52, 3, [5, 21, 0, 577]), (33, .iload_n 1, 1, []), (34, .dup2, 1, []), (35, .iaload, 1, []), (36, .iload_n 2, 1, []), (37, .iadd, 1, []), (38, .iastore, 1, []), (39, .aload_n 0, 1, []), (40, .getfield 49, 3, [5, 20, 0, 576]), (43, .iload_n 1, 1, []), (44, .iaload, 1, []), (45, .aload_n 0, 1, []), (46, .getfield 22, 3, [5, 8, 0, 564]), (49, .iload_n 1, 1, []), (50, .iaload, 1, []), (51, .if_icmp .le 55, 3, []), (54, .aload_n 0, 1, []), (55, .dup, 1, []), (56, .getfield 142, 3, [5, 22, 0, 578]), (59, .iconst 1, 1, []), (60, .iadd, 1, []), (61, .putfield 142, 3, [5, 22, 0, 578]), (64, .aload_n 0, 1, []), (65, .aload_n 0, 1, []), (66, .getfield 145, 3, [5, 23, 0, 579]), (69, .bipush (-9), 2, []), (71, .if_icmp .ne 7, 3, []), (74, .iload_n 1, 1, []), (75, .goto 7, 3, []), (78, .aload_n 0, 1, []), (79, .getfield 148, 3, [5, 24, 0, 580]), (82, .putfield 148, 3, [5, 24, 0, 580]), (85, .aload_n 0, 1, []), (86, .aload_n 0, 1, []), (87, .getfield 145, 3, [5, 23, 0, 579]), (90, .bipush (-9), 2, []), (92, .if_icmp .ne 7, 3, []), (95, .iload_n 3, 1, []), (96, .goto 7, 3, []), (99, .aload_n 0, 1, []), (100, .getfield 145, 3, [5, 23, 0, 579]), (103, .putfield 145, 3, [5, 23, 0, 579]), (106, .return_, 1, [])]
def pm_w_107 : List (Nat × Instr × Nat × List Nat) := [(0, .aload_n 0, 1, []), (1, .iload_n 1, 1, []), (2, .invokevirtual 129, 3, [93, 1, 0, 700, 5]), (5, .ifCond .ne 5, 3, []), (8, .iconst (-1), 1, []), (9, .ireturn, 1, []), (10, .iload_n 2, 1, []), (11, .iconst 0, 1, []), (12, .aload_n 0, 1, []), (13, .getfield 77, 3, [5, 6, 0, 562]), (16, .invokestatic 70, 3, [81, 3, 0, 654]), (19, .ifCond .ne 6, 3, []), (22, .bipush (-2), 2, []), (24, .ireturn, 1, []), (25, .aload_n 0, 1, []), (26, .iload_n 2, 1, []), (27, .iconst 0, 1, []), (28, .invokevirtual 167, 3, [102, 2, 0, 736, 5]), (31, .aload_n 0, 1, []), (32, .getfield 52, 3, [5, 21, 0, 577]), (35, .iload_n 1, 1, []), (36, .iaload, 1, []), (37, .ireturn, 1, [])]
def pm_w_108 : List (Nat × Instr × Nat × List Nat) := [(0, .iload_n 1, 1, []), (1, .iconst 0, 1, []), (2, .iconst 1, 1, []), (3, .invokestatic 70, 3, [81, 3, 0, 654]), (6, .ifCond .ne 6, 3, []), (9, .bipush (-2), 2, []), (11, .ireturn, 1, []), (12, .aload_n 0, 1, []), (13, .getfield 74, 3, [5, 5, 0, 561]), (16, .ifCond .ne 6, 3, []), (19, .bipush (-3), 2, []), (21, .ireturn, 1, []), (22, .aload_n 0, 1, []), (23, .aload_n 0, 1, []), (24, .getfield 77, 3, [5, 6, 0, 562]), (27, .iconst 0, 1, []), (28, .invokevirtual 167, 3, [102, 2, 0, 736, 5]), (31, .iload_n 1, 1, []), (32, .ifCond .ne 10, 3, []), (35, .aload_n 0, 1, []), (36, .getfield 145, 3, [5, 23, 0, 579]), (39, .goto 7, 3, []), (42, .aload_n 0, 1, []), (43, .getfield 148, 3, [5, 24, 0, 580]), (46, .ireturn, 1, [])]
def pm_w_109 : List (Nat × Instr × Nat × List Nat) := [(0, .aload_n 0, 1, []), (1, .getfield 74, 3, [5, 5, 0, 561]), (4, .ifCond .ne 6, 3, []), (7, .bipush (-3), 2, []), (9, .ireturn, 1, []), (10, .aload_n 0, 1, []), (11, .aload_n 0, 1, []), (12, .getfield 77, 3, [5, 6, 0, 562]), (15, .iconst 0, 1, []), (16, .invokevirtual 167, 3, [102, 2, 0, 736, 5]), (19, .aload_n 0, 1, []), (20, .invokevirtual 171, 3, [110, 0, 0, 768, 5]), (23, .ireturn, 1, [])]
def pm_w_110 : List (Nat × Instr × Nat × List Nat) := [(0, .iconst 0, 1, []), (1, .istore_n 1, 1, []), (2, .iconst 0, 1, []), (3, .istore_n 2, 1, []), (4, .iload_n 2, 1, []), (5, .aload_n 0, 1, []), (6, .getfield 74, 3, [5, 5, 0, 561]), (9, .if_icmp .ge 34, 3, []), (12, .iload_n 1, 1, []), (13, .aload_n 0, 1, []), (14, .getfield 52, 3, [5, 21, 0, 577]), (17, .iload_n 2, 1, []), (18, .iaload, 1, []), (19, .aload_n 0, 1, []), (20, .getfield 19, 3, [5, 7, 0, 563]), (23, .iload_n 2, 1, []), (24, .iaload, 1, []), (25, .if_icmp .lt 9, 3, []), (28, .iconst 1, 1, []), (29, .iload_n 2, 1, []), (30, .ishl, 1, []), (31, .goto 4, 3, []), (34, .iconst 0, 1, []), (35, .ior, 1, []), (36, .istore_n 1, 1, []), (37, .iinc 2 1, 3, []), (40, .goto (-36), 3, []), (43, .iload_n 1, 1, []), (44, .ireturn, 1, [])]
def pm_w_111 : List (Nat × Instr × Nat × List Nat) := [(0, .aload_n 0, 1, []), (1, .iconst 0, 1, []), (2, .putfield 64, 3, [5, 0, 0, 556]), (5, .iload_n 1, 1, []), (6, .invokestatic 83, 3, [80, 1, 0, 651]), (9, .ifCond .ne 5, 3, []), (12, .iconst (-1), 1, []), (13, .ireturn, 1, []), (14, .iload_n 2, 1, []), (15, .invokestatic 87, 3, [82, 1, 0, 657]), (18, .ifCond .eq 37, 3, []), (21, .iload 5, 2, []), (23, .iconst 0, 1, []), (24, .iconst 3, 1, []), (25, .invokestatic 70, 3, [81, 3, 0, 654]), (28, .ifCond .ne 30, 3, []), (31, .iload 5, 2, []), (33, .bipush 10, 2, []), (35, .bipush 15, 2, []), (37, .invokestatic 70, 3, [81, 3, 0, 654]), (40, .ifCond .ne 18, 3, []), (43, .iload 5, 2, []), (45, .bipush 20, 2, []), (47, .bipush 25, 2, []), (49, .invokestatic 70, 3, [81, 3, 0, 654]), (52, .ifCond .ne 6, 3, []), (55, .bipush (-2), 2, []), (57, .ireturn, 1, []), (58, .aload_n 0, 1, []), (59, .iload_n 1, 1, []), (60, .iload_n 2, 1, []), (61, .iload_n 3, 1, []), (62, .iload 4, 2, []), (64, .invokevirtual 90, 3, [83, 4, 0, 660, 5]), (67, .istore 6, 2, []), (69, .iload 6, 2, []), (71, .ifCond .eq 10, 3, []), (74, .aload_n 0, 1, []), (75, .iload 6, 2, []), (77, .invokevirtual 94, 3, [84, 1, 0, 664, 5]), (80, .ireturn, 1, []), (81, .aload_n 0, 1, []), (82, .getfield 74, 3, [5, 5, 0, 561]), (85, .ifCond .ne 6, 3, []), (88, .bipush (-3), 2, []), (90, .ireturn, 1, []), (91, .iload 4, 2, []), (93, .aload_n 0, 1, []), (94, .getfield 77, 3, [5, 6, 0, 562]), (97, .if_icmp .eq 6, 3, []), (100, .bipush (-2), 2, []), (102, .ireturn, 1, []), (103, .bipush 60, 2, []), (105, .iload_n 1, 1, []), (106, .imul, 1, []), (107, .iload_n 3, 1, []), (108, .iadd, 1, []), (109, .istore 7, 2, []), (111, .iconst 0, 1, []), (112, .istore 8, 2, []), (114, .iload 8, 2, []), (116, .iload 4, 2, []), (118, .if_icmp .ge 37, 3, []), (121, .aload_n 0, 1, []), (122, .getfield 16, 3, [5, 4, 0, 560]), (125, .iload 7, 2, []), (127, .iload 8, 2, []), (129, .iadd, 1, []), (130, .iaload, 1, []), (131, .iconst 0, 1, []), (132, .iconst 1, 1, []), (133, .aload_n 0, 1, []), (134, .invokevirtual 175, 3, [112, 0, 0, 776, 5]), (137, .ishl, 1, []), (138, .iconst 1, 1, []), (139, .isub, 1, []), (140, .invokestatic 70, 3, [81, 3, 0, 654]), (143, .ifCond .ne 6, 3, []), (146, .bipush (-2), 2, []), (148, .ireturn, 1, []), (149, .iinc 8 1, 3, []), (152, .goto (-38), 3, []), (155, .aload_n 0, 1, []), (156, .invokevirtual 161, 3, [103, 0, 0, 740, 5]), (159, .iconst 0, 1, []), (160, .istore 8, 2, []), (162, .iload 8, 2, []), (164, .iload 4, 2, []), (166, .if_icmp .ge 32, 3, []), (169, .aload_n 0, 1, []), (170, .iload 8, 2, []), (172, .aload_n 0, 1, []), (173, .getfield 31, 3, [5, 11, 0, 567]), (176, .iload 8, 2, []), (178, .iaload, 1, []), (179, .aload_n 0, 1, []), (180, .getfield 16, 3, [5, 4, 0, 560]), (183, .iload 7, 2, []), (185, .iload 8, 2, []), (187, .iadd, 1, []), (188, .iaload, 1, []), (189, .invokevirtual 164, 3, [104, 3, 0, 744, 5]), (192, .iinc 8 1, 3, []), (195, .goto (-33), 3, []), (198, .aload_n 0, 1, []), (199, .iload 5, 2, []), (201, .invokevirtual 178, 3, [113, 1, 0, 780, 5]), (204, .ireturn, 1, [])]
def pm_w_112 : List (Nat × Instr × Nat × List Nat) := [(0, .aload_n 0, 1, []), (1, .getfield 74, 3, [5, 5, 0, 561]), (4, .ifCond .ne 7, 3, []), (7, .iconst 0, 1, []), (8, .goto 9, 3, []), (11, .aload_n 0, 1, []), (12, .getfield 74, 3, [5, 5, 0, 561]), (15, .iconst 1, 1, []), (16, .isub, 1, []), (17, .ireturn, 1, [])]
def pm_w_113 : List (Nat × Instr × Nat × List Nat) := [(0, .iload_n 1, 1, []), (1, .tableswitch 51 0 3 #[31, 36, 41, 46], 31, []), (32, .aload_n 0, 1, []), (33, .getfield 142, 3, [5, 22, 0, 578]), (36, .ireturn, 1, []), (37, .aload_n 0, 1, []), (38, .getfield 145, 3, [5, 23, 0, 579]), (41, .ireturn, 1, []), (42, .aload_n 0, 1, []), (43, .getfield 148, 3, [5, 24, 0, 580]), (46, .ireturn, 1, []), (47, .aload_n 0, 1, []), (48, .invokevirtual 171, 3, [110, 0, 0, 768, 5]), (51, .ireturn, 1, []), (52, .iload_n 1, 1, []), (53, .bipush 10, 2, []), (55, .irem, 1, []), (56, .istore_n 2, 1, []), (57, .aload_n 0, 1, []), (58, .iload_n 2, 1, []), (59, .invokevirtual 129, 3, [93, 1, 0, 700, 5]), (62, .ifCond .ne 6, 3, []), (65, .bipush (-9), 2, []), (67, .ireturn, 1, []), (68, .iload_n 1, 1, []), (69, .bipush 20, 2, []), (71, .if_icmp .ge 12, 3, []), (74, .aload_n 0, 1, []), (75, .getfield 49, 3, [5, 20, 0, 576]), (78, .iload_n 2, 1, []), (79, .iaload, 1, []), (80, .goto 9, 3, []), (83, .aload_n 0, 1, []), (84, .getfield 52, 3, [5, 21, 0, 577]), (87, .iload_n 2, 1, []), (88, .iaload, 1, []), (89, .ireturn, 1, [])]
def pm_w_114 : List (Nat × Instr × Nat × List Nat) := [(0, .aload_n 0, 1, []), (1, .getfield 74, 3, [5, 5, 0, 561]), (4, .ifCond .ne 6, 3, []), (7, .bipush (-3), 2, []), (9, .ireturn, 1, []), (10, .bipush (-9), 2, []), (12, .istore_n 1, 1, []), (13, .iconst 0, 1, []), (14, .istore_n 2, 1, []), (15, .iload_n 2, 1, []), (16, .iconst 1, 1, []), (17, .aload_n 0, 1, []), (18, .invokevirtual 175, 3, [112, 0, 0, 776, 5]), (21, .ishl, 1, []), (22, .if_icmp .ge 48, 3, []), (25, .iload_n 1, 1, []), (26, .bipush (-9), 2, []), (28, .if_icmp .eq 14, 3, []), (31, .iload_n 2, 1, []), (32, .invokestatic 181, 3, [115, 1, 0, 788]), (35, .iload_n 1, 1, []), (36, .invokestatic 181, 3, [115, 1, 0, 788]), (39, .if_icmp .ge 25, 3, []), (42, .aload_n 0, 1, []), (43, .aload_n 0, 1, []), (44, .getfield 77, 3, [5, 6, 0, 562]), (47, .iload_n 2, 1, []), (48, .invokevirtual 167, 3, [102, 2, 0, 736, 5]), (51, .aload_n 0, 1, []), (52, .getfield 142, 3, [5, 22, 0, 578]), (55, .ifCond .ne 7, 3, []), (58, .iload_n 2, 1, []), (59, .goto 4, 3, []), (62, .iload_n 1, 1, []), (63, .istore_n 1, 1, []), (64, .iinc 2 1, 3, []), (67, .goto (-52), 3, []), (70, .iload_n 1, 1, []), (71, .ireturn, 1, [])]
def pm_w_115 : List (Nat × Instr × Nat × List Nat) := [(0, .iconst 0, 1, []), (1, .istore_n 1, 1, []), (2, .iload_n 0, 1, []), (3, .istore_n 2, 1, []), (4, .iload_n 2, 1, []), (5, .ifCond .le 16, 3, []), (8, .iload_n 1, 1, []), (9, .iload_n 2, 1, []), (10, .iconst 1, 1, []), (11, .iand, 1, []), (12, .iadd, 1, []), (13, .istore_n 1, 1, []), (14, .iload_n 2, 1, []), (15, .iconst 1, 1, []), (16, .ishr, 1, []), (17, .istore_n 2, 1, []), (18, .goto (-14), 3, []), (21, .iload_n 1, 1, []), (22, .ireturn, 1, [])]
def pm_w_116 : List (Nat × Instr × Nat × List Nat) := [(0, .aload_n 0, 1, []), (1, .getfield 74, 3, [5, 5, 0, 561]), (4, .ifCond .ne 6, 3, []), (7, .bipush (-3), 2, []), (9, .ireturn, 1, []), (10, .bipush (-9), 2, []), (12, .istore_n 1, 1, []), (13, .iconst 0, 1, []), (14, .istore_n 2, 1, []), (15, .iconst 0, 1, []), (16, .istore_n 3, 1, []), (17, .iload_n 3, 1, []), (18, .iconst 1, 1, []), (19, .aload_n 0, 1, []), (20, .invokevirtual 175, 3, [112, 0, 0, 776, 5]), (23, .ishl, 1, []), (24, .if_icmp .ge 61, 3, []), (27, .aload_n 0, 1, []), (28, .aload_n 0, 1, []), (29, .getfield 77, 3, [5, 6, 0, 562]), (32, .iload_n 3, 1, []), (33, .invokevirtual 167, 3, [102, 2, 0, 736, 5]), (36, .aload_n 0, 1, []), (37, .invokevirtual 171, 3, [110, 0, 0, 768, 5]), (40, .invokestatic 181, 3, [115, 1, 0, 788]), (43, .istore 4, 2, []), (45, .iload_n 1, 1, []), (46, .bipush (-9), 2, []), (48, .if_icmp .eq 26, 3, []), (51, .iload 4, 2, []), (53, .iload_n 2, 1, []), (54, .if_icmp .gt 20, 3, []), (57, .iload 4, 2, []), (59, .iload_n 2, 1, []), (60, .if_icmp .ne 19, 3, []), (63, .iload_n 3, 1, []), (64, .invokestatic 181, 3, [115, 1, 0, 788]), (67, .iload_n 1, 1, []), (68, .invokestatic 181, 3, [115, 1, 0, 788]), (71, .if_icmp .ge 8, 3, []), (74, .iload_n 3, 1, []), (75, .istore_n 1, 1, []), (76, .iload 4, 2, []), (78, .istore_n 2, 1, []), (79, .iinc 3 1, 3, []), (82, .goto (-65), 3, []), (85, .iload_n 1, 1, []), (86, .ireturn, 1, [])]
def pm_w_117 : List (Nat × Instr × Nat × List Nat) := [(0, .aload_n 0, 1, []), (1, .iload_n 1, 1, []), (2, .invokevirtual 129, 3, [93, 1, 0, 700, 5]), (5, .ifCond .ne 5, 3, []), (8, .iconst (-1), 1, []), (9, .ireturn, 1, []), (10, .bipush (-9), 2, []), (12, .istore_n 2, 1, []), (13, .iconst 0, 1, []), (14, .istore_n 3, 1, []), (15, .iload_n 3, 1, []), (16, .iconst 1, 1, []), (17, .aload_n 0, 1, []), (18, .invokevirtual 175, 3, [112, 0, 0, 776, 5]), (21, .ishl, 1, []), (22, .if_icmp .ge 48, 3, []), (25, .iload_n 2, 1, []), (26, .bipush (-9), 2, []), (28, .if_icmp .eq 14, 3, []), (31, .iload_n 3, 1, []), (32, .invokestatic 181, 3, [115, 1, 0, 788]), (35, .iload_n 2, 1, []), (36, .invokestatic 181, 3, [115, 1, 0, 788]), (39, .if_icmp .ge 25, 3, []), (42, .aload_n 0, 1, []), (43, .iload_n 3, 1, []), (44, .putfield 151, 3, [5, 25, 0, 581]), (47, .aload_n 0, 1, []), (48, .iload_n 1, 1, []), (49, .sipush 255, 3, []), (52, .invokevirtual 184, 3, [118, 2, 0, 799, 5]), (55, .ifCond .eq 7, 3, []), (58, .iload_n 2, 1, []), (59, .goto 4, 3, []), (62, .iload_n 3, 1, []), (63, .istore_n 2, 1, []), (64, .iinc 3 1, 3, []), (67, .goto (-52), 3, []), (70, .aload_n 0, 1, []), (71, .iconst 0, 1, []), (72, .putfield 151, 3, [5, 25, 0, 581]), (75, .iload_n 2, 1, []), (76, .ireturn, 1, [])]
def pm_w_118 : List (Nat × Instr × Nat × List Nat) := [(0, .aload_n 0, 1, []), (1, .invokevirtual 161, 3, [103, 0, 0, 740, 5]), (4, .iconst 0, 1, []), (5, .istore_n 3, 1, []), (6, .iload_n 3, 1, []), (7, .aload_n 0, 1, []), (8, .getfield 77, 3, [5, 6, 0, 562]), (11, .if_icmp .ge 51, 3, []), (14, .aload_n 0, 1, []), (15, .iload_n 3, 1, []), (16, .iload_n 2, 1, []), (17, .iload_n 3, 1, []), (18, .ishr, 1, []), (19, .iconst 1, 1, []), (20, .iand, 1, []), (21, .iconst 1, 1, []), (22, .if_icmp .ne 12, 3, []), (25, .aload_n 0, 1, []), (26, .getfield 31, 3, [5, 11, 0, 567]), (29, .iload_n 3, 1, []), (30, .iaload, 1, []), (31, .goto 4, 3, []), (34, .iconst 0, 1, []), (35, .iconst 0, 1, []), (36, .invokevirtual 164, 3, [104, 3, 0, 744, 5]), (39, .aload_n 0, 1, []), (40, .getfield 49, 3, [5, 20, 0, 576]), (43, .iload_n 1, 1, []), (44, .iaload, 1, []), (45, .aload_n 0, 1, []), (46, .getfield 22, 3, [5, 8, 0, 564]), (49, .iload_n 1, 1, []), (50, .iaload, 1, []), (51, .if_icmp .le 5, 3, []), (54, .iconst 1, 1, []), (55, .ireturn, 1, []), (56, .iinc 3 1, 3, []), (59, .goto (-53), 3, []), (62, .iconst 0, 1, []), (63, .ireturn, 1, [])]
def pm_w_119 : List (Nat × Instr × Nat × List Nat) := [(0, .aload_n 0, 1, []), (1, .iload_n 1, 1, []), (2, .invokevirtual 129, 3, [93, 1, 0, 700, 5]), (5, .ifCond .ne 5, 3, []), (8, .iconst (-1), 1, []), (9, .ireturn, 1, []), (10, .iload_n 2, 1, []), (11, .iconst 0, 1, []), (12, .aload_n 0, 1, []), (13, .getfield 77, 3, [5, 6, 0, 562]), (16, .invokestatic 70, 3, [81, 3, 0, 654]), (19, .ifCond .eq 13, 3, []), (22, .iload_n 3, 1, []), (23, .iconst 0, 1, []), (24, .bipush 99, 2, []), (26, .invokestatic 70, 3, [81, 3, 0, 654]), (29, .ifCond .ne 6, 3, []), (32, .bipush (-2), 2, []), (34, .ireturn, 1, []), (35, .aload_n 0, 1, []), (36, .getfield 110, 3, [5, 26, 0, 582]), (39, .bipush 8, 2, []), (41, .if_icmp .ne 6, 3, []), (44, .bipush (-4), 2, []), (46, .ireturn, 1, []), (47, .aload_n 0, 1, []), (48, .getfield 55, 3, [5, 27, 0, 583]), (51, .aload_n 0, 1, []), (52, .getfield 110, 3, [5, 26, 0, 582]), (55, .iload_n 1, 1, []), (56, .iastore, 1, []), (57, .aload_n 0, 1, []), (58, .getfield 58, 3, [5, 28, 0, 584]), (61, .aload_n 0, 1, []), (62, .getfield 110, 3, [5, 26, 0, 582]), (65, .iload_n 2, 1, []), (66, .iastore, 1, []), (67, .aload_n 0, 1, []), (68, .getfield 61, 3, [5, 29, 0, 585]), (71, .aload_n 0, 1, []), (72, .getfield 110, 3, [5, 26, 0, 582]), (75, .iload_n 3, 1, []), (76, .iastore, 1, []), (77, .aload_n 0, 1, []), (78, .dup, 1, []), (79, .getfield 110, 3, [5, 26, 0, 582]), (82, .iconst 1, 1, []), (83, .iadd, 1, []), (84, .putfield 110, 3, [5, 26, 0, 582]), (87, .aload_n 0, 1, []), (88, .getfield 110, 3, [5, 26, 0, 582]), (91, .iconst 1, 1, []), (92, .isub, 1, []), (93, .ireturn, 1, [])]
def pm_w_120 : List (Nat × Instr × Nat × List Nat) := [(0, .iload_n 1, 1, []), (1, .iconst 0, 1, []), (2, .aload_n 0, 1, []), (3, .getfield 110, 3, [5, 26, 0, 582]), (6, .invokestatic 70, 3, [81, 3, 0, 654]), (9, .ifCond .ne 6, 3, []), (12, .bipush (-2), 2, []), (14, .ireturn, 1, []), (15, .aload_n 0, 1, []), (16, .dup, 1, []), (17, .getfield 110, 3, [5, 26, 0, 582]), (20, .iload_n 1, 1, []), (21, .isub, 1, []), (22, .putfield 110, 3, [5, 26, 0, 582]), (25, .aload_n 0, 1, []), (26, .getfield 110, 3, [5, 26, 0, 582]), (29, .ireturn, 1, [])]
def pm_w_121 : List (Nat × Instr × Nat × List Nat) := [(0, .aload_n 0, 1, []), (1, .iload_n 1, 1, []), (2, .invokevirtual 132, 3, [95, 1, 0, 708, 5]), (5, .ifCond .ne 5, 3, []), (8, .iconst (-1), 1, []), (9, .ireturn, 1, []), (10, .aload_n 0, 1, []), (11, .getfield 28, 3, [5, 10, 0, 566]), (14, .iload_n 1, 1, []), (15, .iaload, 1, []), (16, .istore_n 2, 1, []), (17, .iconst 0, 1, []), (18, .istore_n 3, 1, []), (19, .iconst 0, 1, []), (20, .istore 4, 2, []), (22, .iload 4, 2, []), (24, .bipush 9, 2, []), (26, .if_icmp .gt 35, 3, []), (29, .aload_n 0, 1, []), (30, .getfield 28, 3, [5, 10, 0, 566]), (33, .iload_n 1, 1, []), (34, .iload 4, 2, []), (36, .iastore, 1, []), (37, .iload_n 3, 1, []), (38, .aload_n 0, 1, []), (39, .invokevirtual 190, 3, [122, 0, 0, 815, 5]), (42, .ifCond .eq 10, 3, []), (45, .iconst 1, 1, []), (46, .iload 4, 2, []), (48, .ishl, 1, []), (49, .goto 4, 3, []), (52, .iconst 0, 1, []), (53, .ior, 1, []), (54, .istore_n 3, 1, []), (55, .iinc 4 1, 3, []), (58, .goto (-36), 3, []), (61, .aload_n 0, 1, []), (62, .getfield 28, 3, [5, 10, 0, 566]), (65, .iload_n 1, 1, []), (66, .iload_n 2, 1, []), (67, .iastore, 1, []), (68, .iload_n 3, 1, []), (69, .ireturn, 1, [])]
def pm_w_122 : List (Nat × Instr × Nat × List Nat) := [(0, .aload_n 0, 1, []), (1, .invokevirtual 161, 3, [103, 0, 0, 740, 5]), (4, .aload_n 0, 1, []), (5, .iconst 0, 1, []), (6, .invokevirtual 187, 3, [123, 1, 0, 819, 5]), (9, .istore_n 1, 1, []), (10, .iconst 0, 1, []), (11, .istore_n 2, 1, []), (12, .iload_n 2, 1, []), (13, .aload_n 0, 1, []), (14, .getfield 77, 3, [5, 6, 0, 562]), (17, .if_icmp .ge 33, 3, []), (20, .iload_n 1, 1, []), (21, .ifCond .eq 29, 3, []), (24, .aload_n 0, 1, []), (25, .iload_n 2, 1, []), (26, .aload_n 0, 1, []), (27, .getfield 31, 3, [5, 11, 0, 567]), (30, .iload_n 2, 1, []), (31, .iaload, 1, []), (32, .iconst 0, 1, []), (33, .invokevirtual 164, 3, [104, 3, 0, 744, 5]), (36, .aload_n 0, 1, []), (37, .iload_n 2, 1, []), (38, .iconst 1, 1, []), (39, .iadd, 1, []), (40, .invokevirtual 187, 3, [123, 1, 0, 819, 5]), (43, .istore_n 1, 1, []), (44, .iinc 2 1, 3, []), (47, .goto (-35), 3, []), (50, .iload_n 1, 1, []), (51, .ireturn, 1, [])]
def pm_w_123 : List (Nat × Instr × Nat × List Nat) := [(0, .iconst 0, 1, []), (1, .istore_n 2, 1, []), (2, .iload_n 2, 1, []), (3, .aload_n 0, 1, []), (4, .getfield 110, 3, [5, 26, 0, 582]), (7, .if_icmp .ge 41, 3, []), (10, .aload_n 0, 1, []), (11, .getfield 58, 3, [5, 28, 0, 584]), (14, .iload_n 2, 1, []), (15, .iaload, 1, []), (16, .iload_n 1, 1, []), (17, .if_icmp .ne 25, 3, []), (20, .aload_n 0, 1, []), (21, .getfield 49, 3, [5, 20, 0, 576]), (24, .aload_n 0, 1, []), (25, .getfield 55, 3, [5, 27, 0, 583]), (28, .iload_n 2, 1, []), (29, .iaload, 1, []), (30, .iaload, 1, []), (31, .aload_n 0, 1, []), (32, .getfield 61, 3, [5, 29, 0, 585]), (35, .iload_n 2, 1, []), (36, .iaload, 1, []), (37, .if_icmp .eq 5, 3, []), (40, .iconst 0, 1, []), (41, .ireturn, 1, []), (42, .iinc 2 1, 3, []), (45, .goto (-43), 3, []), (48, .iconst 1, 1, []), (49, .ireturn, 1, [])]
def pm_w_124 : List (Nat × Instr × Nat × List Nat) := [(0, .aload_n 0, 1, []), (1, .iload_n 1, 1, []), (2, .invokevirtual 132, 3, [95, 1, 0, 708, 5]), (5, .ifCond .ne 5, 3, []), (8, .iconst (-1), 1, []), (9, .ireturn, 1, []), (10, .aload_n 0, 1, []), (11, .getfield 25, 3, [5, 9, 0, 565]), (14, .iload_n 1, 1, []), (15, .iaload, 1, []), (16, .istore_n 2, 1, []), (17, .iconst 0, 1, []), (18, .istore_n 3, 1, []), (19, .iconst 0, 1, []), (20, .istore 4, 2, []), (22, .iload 4, 2, []), (24, .iconst 3, 1, []), (25, .if_icmp .ge 35, 3, []), (28, .aload_n 0, 1, []), (29, .getfield 25, 3, [5, 9, 0, 565]), (32, .iload_n 1, 1, []), (33, .iload 4, 2, []), (35, .iastore, 1, []), (36, .iload_n 3, 1, []), (37, .aload_n 0, 1, []), (38, .invokevirtual 190, 3, [122, 0, 0, 815, 5]), (41, .ifCond .eq 10, 3, []), (44, .iconst 1, 1, []), (45, .iload 4, 2, []), (47, .ishl, 1, []), (48, .goto 4, 3, []), (51, .iconst 0, 1, []), (52, .ior, 1, []), (53, .istore_n 3, 1, []), (54, .iinc 4 1, 3, []), (57, .goto (-35), 3, []), (60, .aload_n 0, 1, []), (61, .getfield 25, 3, [5, 9, 0, 565]), (64, .iload_n 1, 1, []), (65, .iload_n 2, 1, []), (66, .iastore, 1, []), (67, .iload_n 3, 1, []), (68, .ireturn, 1, [])]
def pm_w_125 : List (Nat × Instr × Nat × List Nat) := [(0, .aload_n 0, 1, []), (1, .getfield 74, 3, [5, 5, 0, 561]), (4, .ifCond .ne 6, 3, []), (7, .bipush (-3), 2, []), (9, .ireturn, 1, []), (10, .aload_n 0, 1, []), (11, .iload_n 1, 1, []), (12, .invokevirtual 139, 3, [100, 1, 0, 728, 5]), (15, .ifCond .ne 6, 3, []), (18, .bipush (-2), 2, []), (20, .ireturn, 1, []), (21, .aload_n 0, 1, []), (22, .getfield 31, 3, [5, 11, 0, 567]), (25, .iload_n 1, 1, []), (26, .iaload, 1, []), (27, .istore_n 2, 1, []), (28, .iconst 0, 1, []), (29, .istore_n 3, 1, []), (30, .iconst 0, 1, []), (31, .istore 4, 2, []), (33, .iload 4, 2, []), (35, .bipush 9, 2, []), (37, .if_icmp .gt 35, 3, []), (40, .aload_n 0, 1, []), (41, .getfield 31, 3, [5, 11, 0, 567]), (44, .iload_n 1, 1, []), (45, .iload 4, 2, []), (47, .iastore, 1, []), (48, .iload_n 3, 1, []), (49, .aload_n 0, 1, []), (50, .invokevirtual 190, 3, [122, 0, 0, 815, 5]), (53, .ifCond .eq 10, 3, []), (56, .iconst 1, 1, []), (57, .iload 4, 2, []), (59, .ishl, 1, []), (60, .goto 4, 3, []), (63, .iconst 0, 1, []), (64, .ior, 1, []), (65, .istore_n 3, 1, []), (66, .iinc 4 1, 3, []), (69, .goto (-36), 3, []), (72, .aload_n 0, 1, []), (73, .getfield 31, 3, [5, 11, 0, 567]), (76, .iload_n 1, 1, []), (77, .iload_n 2, 1, []), (78, .iastore, 1, []), (79, .iload_n 3, 1, []), (80, .ireturn, 1, [])]
def pm_w_126 : List (Nat × Instr × Nat × List Nat) := [(0, .aload_n 0, 1, []), (1, .iload_n 1, 1, []), (2, .invokevirtual 129, 3, [93, 1, 0, 700, 5]), (5, .ifCond .eq 12, 3, []), (8, .iload_n 2, 1, []), (9, .iconst 0, 1, []), (10, .iconst 1, 1, []), (11, .invokestatic 70, 3, [81, 3, 0, 654]), (14, .ifCond .ne 7, 3, []), (17, .ldc2_w 68, 3, [835, 9223372036854775808]), (20, .lreturn, 1, []), (21, .iconst 0, 1, []), (22, .istore_n 3, 1, []), (23, .iconst 0, 1, []), (24, .istore 4, 2, []), (26, .iload 4, 2, []), (28, .iconst 1, 1, []), (29, .aload_n 0, 1, []), (30, .getfield 77, 3, [5, 6, 0, 562]), (33, .ishl, 1, []), (34, .if_icmp .ge 27, 3, []), (37, .iload_n 3, 1, []), (38, .aload_n 0, 1, []), (39, .iload_n 1, 1, []), (40, .iload 4, 2, []), (42, .invokevirtual 184, 3, [118, 2, 0, 799, 5]), (45, .ifCond .eq 7, 3, []), (48, .iconst 1, 1, []), (49, .goto 4, 3, []), (52, .iconst 0, 1, []), (53, .iadd, 1, []), (54, .istore_n 3, 1, []), (55, .iinc 4 1, 3, []), (58, .goto (-32), 3, []), (61, .iload_n 3, 1, []), (62, .i2l, 1, []), (63, .lconst 1, 1, []), (64, .aload_n 0, 1, []), (65, .getfield 77, 3, [5, 6, 0, 562]), (68, .lshl, 1, []), (69, .iload_n 2, 1, []), (70, .invokestatic 194, 3, [127, 3, 0, 836]), (73, .lreturn, 1, [])]
def pm_w_127 : List (Nat × Instr × Nat × List Nat) := [(0, .lload_n 0, 1, []), (1, .lstore 5, 2, []), (3, .lload_n 2, 1, []), (4, .lstore 7, 2, []), (6, .lload 7, 2, []), (8, .lconst 0, 1, []), (9, .lcmp, 1, []), (10, .ifCond .eq 21, 3, []), (13, .lload 5, 2, []), (15, .lload 7, 2, []), (17, .lrem, 1, []), (18, .lstore 9, 2, []), (20, .lload 7, 2, []), (22, .lstore 5, 2, []), (24, .lload 9, 2, []), (26, .lstore 7, 2, []), (28, .goto (-22), 3, []), (31, .iload 4, 2, []), (33, .ifCond .ne 10, 3, []), (36, .lload_n 0, 1, []), (37, .lload 5, 2, []), (39, .ldiv, 1, []), (40, .goto 7, 3, []), (43, .lload_n 2, 1, []), (44, .lload 5, 2, []), (46, .ldiv, 1, []), (47, .lreturn, 1, [])]
def pm_w_128 : List (Nat × Instr × Nat × List Nat) := [(0, .aload_n 0, 1, []), (1, .iconst 0, 1, []), (2, .putfield 64, 3, [5, 0, 0, 556]), (5, .iload_n 1, 1, []), (6, .invokestatic 83, 3, [80, 1, 0, 651]), (9, .ifCond .ne 5, 3, []), (12, .iconst (-1), 1, []), (13, .ireturn, 1, []), (14, .iload_n 2, 1, []), (15, .invokestatic 87, 3, [82, 1, 0, 657]), (18, .ifCond .eq 9, 3, []), (21, .iload_n 3, 1, []), (22, .bipush 60, 2, []), (24, .if_icmp .le 6, 3, []), (27, .bipush (-2), 2, []), (29, .ireturn, 1, []), (30, .iload_n 3, 1, []), (31, .ifCond .ge 9, 3, []), (34, .aload_n 0, 1, []), (35, .iconst 4, 1, []), (36, .invokevirtual 94, 3, [84, 1, 0, 664, 5]), (39, .ireturn, 1, []), (40, .aload_n 0, 1, []), (41, .getfield 9, 3, [5, 2, 0, 558]), (44, .iload_n 1, 1, []), (45, .iload_n 2, 1, []), (46, .iastore, 1, []), (47, .aload_n 0, 1, []), (48, .getfield 13, 3, [5, 3, 0, 559]), (51, .iload_n 1, 1, []), (52, .iload_n 3, 1, []), (53, .iastore, 1, []), (54, .iconst 0, 1, []), (55, .istore 4, 2, []), (57, .iload 4, 2, []), (59, .bipush 60, 2, []), (61, .if_icmp .ge 22, 3, []), (64, .aload_n 0, 1, []), (65, .getfield 16, 3, [5, 4, 0, 560]), (68, .bipush 60, 2, []), (70, .iload_n 1, 1, []), (71, .imul, 1, []), (72, .iload 4, 2, []), (74, .iadd, 1, []), (75, .iconst 0, 1, []), (76, .iastore, 1, []), (77, .iinc 4 1, 3, []), (80, .goto (-23), 3, []), (83, .iconst 1, 1, []), (84, .ireturn, 1, [])]
def pm_w_129 : List (Nat × Instr × Nat × List Nat) := [(0, .iload_n 1, 1, []), (1, .invokestatic 83, 3, [80, 1, 0, 651]), (4, .ifCond .ne 5, 3, []), (7, .iconst (-1), 1, []), (8, .ireturn, 1, []), (9, .aload_n 0, 1, []), (10, .getfield 9, 3, [5, 2, 0, 558]), (13, .iload_n 1, 1, []), (14, .iaload, 1, []), (15, .bipush (-9), 2, []), (17, .if_icmp .ne 7, 3, []), (20, .iconst 0, 1, []), (21, .goto 4, 3, []), (24, .iconst 1, 1, []), (25, .istore_n 2, 1, []), (26, .aload_n 0, 1, []), (27, .getfield 9, 3, [5, 2, 0, 558]), (30, .iload_n 1, 1, []), (31, .bipush (-9), 2, []), (33, .iastore, 1, []), (34, .iload_n 2, 1, []), (35, .ireturn, 1, [])]
def pm_w_130 : List (Nat × Instr × Nat × List Nat) := [(0, .aload_n 0, 1, []), (1, .iconst 0, 1, []), (2, .putfield 64, 3, [5, 0, 0, 556]), (5, .iload_n 1, 1, []), (6, .invokestatic 83, 3, [80, 1, 0, 651]), (9, .ifCond .ne 5, 3, []), (12, .iconst (-1), 1, []), (13, .ireturn, 1, []), (14, .aload_n 0, 1, []), (15, .getfield 9, 3, [5, 2, 0, 558]), (18, .iload_n 1, 1, []), (19, .iaload, 1, []), (20, .bipush (-9), 2, []), (22, .if_icmp .ne 9, 3, []), (25, .aload_n 0, 1, []), (26, .iconst 1, 1, []), (27, .invokevirtual 94, 3, [84, 1, 0, 664, 5]), (30, .ireturn, 1, []), (31, .iload_n 2, 1, []), (32, .iconst 0, 1, []), (33, .aload_n 0, 1, []), (34, .getfield 13, 3, [5, 3, 0, 559]), (37, .iload_n 1, 1, []), (38, .iaload, 1, []), (39, .iconst 1, 1, []), (40, .isub, 1, []), (41, .invokestatic 70, 3, [81, 3, 0, 654]), (44, .ifCond .ne 9, 3, []), (47, .aload_n 0, 1, []), (48, .iconst 3, 1, []), (49, .invokevirtual 94, 3, [84, 1, 0, 664, 5]), (52, .ireturn, 1, []), (53, .aload_n 0, 1, []), (54, .getfield 16, 3, [5, 4, 0, 560]), (57, .bipush 60, 2, []), (59, .iload_n 1, 1, []), (60, .imul, 1, []), (61, .iload_n 2, 1, []), (62, .iadd, 1, []), (63, .aload_n 0, 1, []), (64, .getfield 9, 3, [5, 2, 0, 558]), (67, .iload_n 1, 1, []), (68, .iaload, 1, []), (69, .ifCond .ne 8, 3, []), (72, .iload_n 3, 1, []), (73, .i2b, 1, []), (74, .goto 19, 3, []), (77, .aload_n 0, 1, []), (78, .getfield 9, 3, [5, 2, 0, 558]), (81, .iload_n 1, 1, []), (82, .iaload, 1, []), (83, .iconst 1, 1, []), (84, .if_icmp .ne 8, 3, []), (87, .iload_n 3, 1, []), (88, .i2s, 1, []), (89, .goto 4, 3, []), (92, .iload_n 3, 1, []), (93, .iastore, 1, []), (94, .iconst 1, 1, []), (95, .ireturn, 1, [])]
def pm_w_131 : List (Nat × Instr × Nat × List Nat) := [(0, .aload_n 0, 1, []), (1, .iconst 0, 1, []), (2, .putfield 64, 3, [5, 0, 0, 556]), (5, .iload_n 1, 1, []), (6, .invokestatic 83, 3, [80, 1, 0, 651]), (9, .ifCond .eq 10, 3, []), (12, .iload_n 3, 1, []), (13, .invokestatic 87, 3, [82, 1, 0, 657]), (16, .ifCond .ne 7, 3, []), (19, .ldc2_w 68, 3, [835, 9223372036854775808]), (22, .lreturn, 1, []), (23, .aload_n 0, 1, []), (24, .getfield 9, 3, [5, 2, 0, 558]), (27, .iload_n 1, 1, []), (28, .iaload, 1, []), (29, .bipush (-9), 2, []), (31, .if_icmp .eq 19, 3, []), (34, .aload_n 0, 1, []), (35, .getfield 9, 3, [5, 2, 0, 558]), (38, .iload_n 1, 1, []), (39, .iaload, 1, []), (40, .iload_n 3, 1, []), (41, .if_icmp .eq 9, 3, []), (44, .aload_n 0, 1, []), (45, .iconst 2, 1, []), (46, .invokevirtual 198, 3, [132, 1, 0, 855, 5]), (49, .lreturn, 1, []), (50, .aload_n 0, 1, []), (51, .getfield 9, 3, [5, 2, 0, 558]), (54, .iload_n 1, 1, []), (55, .iaload, 1, []), (56, .bipush (-9), 2, []), (58, .if_icmp .ne 9, 3, []), (61, .aload_n 0, 1, []), (62, .iconst 1, 1, []), (63, .invokevirtual 198, 3, [132, 1, 0, 855, 5]), (66, .lreturn, 1, []), (67, .iload_n 2, 1, []), (68, .iconst 0, 1, []), (69, .aload_n 0, 1, []), (70, .getfield 13, 3, [5, 3, 0, 559]), (73, .iload_n 1, 1, []), (74, .iaload, 1, []), (75, .iconst 1, 1, []), (76, .isub, 1, []), (77, .invokestatic 70, 3, [81, 3, 0, 654]), (80, .ifCond .ne 9, 3, []), (83, .aload_n 0, 1, []), (84, .iconst 3, 1, []), (85, .invokevirtual 198, 3, [132, 1, 0, 855, 5]), (88, .lreturn, 1, []), (89, .aload_n 0, 1, []), (90, .getfield 16, 3, [5, 4, 0, 560]), (93, .bipush 60, 2, []), (95, .iload_n 1, 1, []), (96, .imul, 1, []), (97, .iload_n 2, 1, []), (98, .iadd, 1, []), (99, .iaload, 1, []), (100, .i2l, 1, []), (101, .lreturn, 1, [])]
def pm_w_132 : List (Nat × Instr × Nat × List Nat) := [(0, .aload_n 0, 1, []), (1, .iload_n 1, 1, []), (2, .putfield 64, 3, [5, 0, 0, 556]), (5, .ldc2_w 68, 3, [835, 9223372036854775808]), (8, .lreturn, 1, [])]
def pm_w_133 : List (Nat × Instr × Nat × List Nat) := [(0, .aload_n 0, 1, []), (1, .iconst 0, 1, []), (2, .putfield 64, 3, [5, 0, 0, 556]), (5, .iload_n 1, 1, []), (6, .invokestatic 83, 3, [80, 1, 0, 651]), (9, .ifCond .eq 10, 3, []), (12, .iload_n 3, 1, []), (13, .invokestatic 83, 3, [80, 1, 0, 651]), (16, .ifCond .ne 5, 3, []), (19, .iconst (-1), 1, []), (20, .ireturn, 1, []), (21, .aload_n 0, 1, []), (22, .getfield 9, 3, [5, 2, 0, 558]), (25, .iload_n 1, 1, []), (26, .iaload, 1, []), (27, .bipush (-9), 2, []), (29, .if_icmp .eq 14, 3, []), (32, .aload_n 0, 1, []), (33, .getfield 9, 3, [5, 2, 0, 558]), (36, .iload_n 3, 1, []), (37, .iaload, 1, []), (38, .bipush (-9), 2, []), (40, .if_icmp .ne 9, 3, []), (43, .aload_n 0, 1, []), (44, .iconst 1, 1, []), (45, .invokevirtual 94, 3, [84, 1, 0, 664, 5]), (48, .ireturn, 1, []), (49, .aload_n 0, 1, []), (50, .getfield 9, 3, [5, 2, 0, 558]), (53, .iload_n 1, 1, []), (54, .iaload, 1, []), (55, .aload_n 0, 1, []), (56, .getfield 9, 3, [5, 2, 0, 558]), (59, .iload_n 3, 1, []), (60, .iaload, 1, []), (61, .if_icmp .eq 9, 3, []), (64, .aload_n 0, 1, []), (65, .iconst 2, 1, []), (66, .invokevirtual 94, 3, [84, 1, 0, 664, 5]), (69, .ireturn, 1, []), (70, .iload_n 2, 1, []), (71, .ifCond .lt 38, 3, []), (74, .iload 4, 2, []), (76, .ifCond .lt 33, 3, []), (79, .iload 5, 2, []), (81, .ifCond .lt 28, 3, []), (84, .iload_n 2, 1, []), (85, .aload_n 0, 1, []), (86, .getfield 13, 3, [5, 3, 0, 559]), (89, .iload_n 1, 1, []), (90, .iaload, 1, []), (91, .if_icmp .gt 18, 3, []), (94, .iload 4, 2, []), (96, .aload_n 0, 1, []), (97, .getfield 13, 3, [5, 3, 0, 559]), (100, .iload_n 3, 1, []), (101, .iaload, 1, []), (102, .if_icmp .gt 7, 3, []), (105, .iconst 1, 1, []), (106, .goto 4, 3, []), (109, .iconst 0, 1, []), (110, .istore 6, 2, []), (112, .iload 6, 2, []), (114, .ifCond .eq 30, 3, []), (117, .iload 5, 2, []), (119, .aload_n 0, 1, []), (120, .getfield 13, 3, [5, 3, 0, 559]), (123, .iload_n 1, 1, []), (124, .iaload, 1, []), (125, .iload_n 2, 1, []), (126, .isub, 1, []), (127, .if_icmp .gt 17, 3, []), (130, .iload 5, 2, []), (132, .aload_n 0, 1, []), (133, .getfield 13, 3, [5, 3, 0, 559]), (136, .iload_n 3, 1, []), (137, .iaload, 1, []), (138, .iload 4, 2, []), (140, .isub, 1, []), (141, .if_icmp .le 9, 3, []), (144, .aload_n 0, 1, []), (145, .iconst 3, 1, []), (146, .invokevirtual 94, 3, [84, 1, 0, 664, 5]), (149, .ireturn, 1, []), (150, .iload_n 2, 1, []), (151, .iload 4, 2, []), (153, .if_icmp .ge 7, 3, []), (156, .iconst 1, 1, []), (157, .goto 4, 3, []), (160, .iconst 0, 1, []), (161, .istore 7, 2, []), (163, .iconst 0, 1, []), (164, .istore 8, 2, []), (166, .iload 8, 2, []), (168, .iload 5, 2, []), (170, .if_icmp .ge 57, 3, []), (173, .iload 7, 2, []), (175, .ifCond .eq 13, 3, []), (178, .iload 5, 2, []), (180, .iconst 1, 1, []), (181, .isub, 1, []), (182, .iload 8, 2, []), (184, .isub, 1, []), (185, .goto 5, 3, []), (188, .iload 8, 2, []), (190, .istore 9, 2, []), (192, .aload_n 0, 1, []), (193, .getfield 16, 3, [5, 4, 0, 560]), (196, .bipush 60, 2, []), (198, .iload_n 3, 1, []), (199, .imul, 1, []), (200, .iload 4, 2, []), (202, .iadd, 1, []), (203, .iload 9, 2, []), (205, .iadd, 1, []), (206, .aload_n 0, 1, []), (207, .getfield 16, 3, [5, 4, 0, 560]), (210, .bipush 60, 2, []), (212, .iload_n 1, 1, []), (213, .imul, 1, []), (214, .iload_n 2, 1, []), (215, .iadd, 1, []), (216, .iload 9, 2, []), (218, .iadd, 1, []), (219, .iaload, 1, []), (220, .iastore, 1, []), (221, .iinc 8 1, 3, []), (224, .goto (-58), 3, []), (227, .iload 5, 2, []), (229, .ireturn, 1, [])]
def pm_w_134 : List (Nat × Instr × Nat × List Nat) := [(0, .aload_n 0, 1, []), (1, .iload_n 1, 1, []), (2, .invokevirtual 132, 3, [95, 1, 0, 708, 5]), (5, .ifCond .ne 5, 3, []), (8, .iconst (-1), 1, []), (9, .ireturn, 1, []), (10, .aload_n 0, 1, []), (11, .getfield 28, 3, [5, 10, 0, 566]), (14, .iload_n 1, 1, []), (15, .iaload, 1, []), (16, .istore_n 2, 1, []), (17, .aload_n 0, 1, []), (18, .getfield 25, 3, [5, 9, 0, 565]), (21, .iload_n 1, 1, []), (22, .iaload, 1, []), (23, .lookupswitch 67 #[(1, 25), (2, 40)], 25, []), (48, .aload_n 0, 1, []), (49, .iconst 2, 1, []), (50, .invokevirtual 205, 3, [135, 1, 0, 867, 5]), (53, .aload_n 0, 1, []), (54, .iconst 1, 1, []), (55, .invokevirtual 205, 3, [135, 1, 0, 867, 5]), (58, .iload_n 2, 1, []), (59, .bipush 100, 2, []), (61, .iadd, 1, []), (62, .ireturn, 1, []), (63, .aload_n 0, 1, []), (64, .iconst 3, 1, []), (65, .invokevirtual 205, 3, [135, 1, 0, 867, 5]), (68, .aload_n 0, 1, []), (69, .iconst 2, 1, []), (70, .invokevirtual 205, 3, [135, 1, 0, 867, 5]), (73, .aload_n 0, 1, []), (74, .iconst 1, 1, []), (75, .invokevirtual 205, 3, [135, 1, 0, 867, 5]), (78, .aload_n 0, 1, []), (79, .iconst 1, 1, []), (80, .invokevirtual 205, 3, [135, 1, 0, 867, 5]), (83, .iconst 2, 1, []), (84, .iload_n 2, 1, []), (85, .imul, 1, []), (86, .bipush 100, 2, []), (88, .iadd, 1, []), (89, .ireturn, 1, []), (90, .aload_n 0, 1, []), (91, .iconst 1, 1, []), (92, .invokevirtual 205, 3, [135, 1, 0, 867, 5]), (95, .iload_n 2, 1, []), (96, .ireturn, 1, [])]
def pm_w_135 : List (Nat × Instr × Nat × List Nat) := [(0, .aload_n 0, 1, []), (1, .bipush 31, 2, []), (3, .aload_n 0, 1, []), (4, .getfield 202, 3, [5, 1, 0, 557]), (7, .imul, 1, []), (8, .iload_n 1, 1, []), (9, .iadd, 1, []), (10, .putfield 202, 3, [5, 1, 0, 557]), (13, .return_, 1, [])]
def pm_w_136 : List (Nat × Instr × Nat × List Nat) := [(0, .aload_n 0, 1, []), (1, .iload_n 1, 1, []), (2, .invokevirtual 132, 3, [95, 1, 0, 708, 5]), (5, .ifCond .ne 5, 3, []), (8, .iconst (-1), 1, []), (9, .ireturn, 1, []), (10, .aload_n 0, 1, []), (11, .aload_n 0, 1, []), (12, .getfield 25, 3, [5, 9, 0, 565]), (15, .iload_n 1, 1, []), (16, .iaload, 1, []), (17, .iconst 2, 1, []), (18, .if_icmp .ne 7, 3, []), (21, .iconst 5, 1, []), (22, .goto 4, 3, []), (25, .iconst 4, 1, []), (26, .invokevirtual 205, 3, [135, 1, 0, 867, 5]), (29, .aload_n 0, 1, []), (30, .getfield 25, 3, [5, 9, 0, 565]), (33, .iload_n 1, 1, []), (34, .iaload, 1, []), (35, .iconst 2, 1, []), (36, .if_icmp .ne 8, 3, []), (39, .bipush 30, 2, []), (41, .goto 4, 3, []), (44, .iload_n 1, 1, []), (45, .ireturn, 1, [])]
def pm_w_137 : List (Nat × Instr × Nat × List Nat) := [(0, .aload_n 0, 1, []), (1, .iconst 0, 1, []), (2, .putfield 64, 3, [5, 0, 0, 556]), (5, .aload_n 0, 1, []), (6, .iload_n 1, 1, []), (7, .invokevirtual 132, 3, [95, 1, 0, 708, 5]), (10, .ifCond .ne 5, 3, []), (13, .iconst (-1), 1, []), (14, .ireturn, 1, []), (15, .iload_n 2, 1, []), (16, .iconst 0, 1, []), (17, .iconst 2, 1, []), (18, .invokestatic 70, 3, [81, 3, 0, 654]), (21, .ifCond .ne 6, 3, []), (24, .bipush (-2), 2, []), (26, .ireturn, 1, []), (27, .aload_n 0, 1, []), (28, .getfield 25, 3, [5, 9, 0, 565]), (31, .iload_n 1, 1, []), (32, .iaload, 1, []), (33, .iload_n 2, 1, []), (34, .if_icmp .lt 7, 3, []), (37, .iconst 1, 1, []), (38, .goto 8, 3, []), (41, .aload_n 0, 1, []), (42, .iconst 2, 1, []), (43, .invokevirtual 94, 3, [84, 1, 0, 664, 5]), (46, .ireturn, 1, [])]
def pm_w_138 : List (Nat × Instr × Nat × List Nat) := [(0, .aload_n 0, 1, []), (1, .getfield 202, 3, [5, 1, 0, 557]), (4, .ireturn, 1, [])]
def pm_w_139 : List (Nat × Instr × Nat × List Nat) := [(0, .aload_n 0, 1, []), (1, .getfield 64, 3, [5, 0, 0, 556]), (4, .ireturn, 1, [])]
def pm_w_140 : List (Nat × Instr × Nat × List Nat) := [(0, .iload_n 1, 1, []), (1, .ifCond .ne 10, 3, []), (4, .aload_n 0, 1, []), (5, .invokevirtual 175, 3, [112, 0, 0, 776, 5]), (8, .goto 41, 3, []), (11, .iload_n 1, 1, []), (12, .iconst 1, 1, []), (13, .if_icmp .ne 10, 3, []), (16, .aload_n 0, 1, []), (17, .getfield 74, 3, [5, 5, 0, 561]), (20, .goto 29, 3, []), (23, .iload_n 1, 1, []), (24, .iconst 2, 1, []), (25, .if_icmp .ne 10, 3, []), (28, .aload_n 0, 1, []), (29, .getfield 77, 3, [5, 6, 0, 562]), (32, .goto 17, 3, []), (35, .iload_n 1, 1, []), (36, .iconst 3, 1, []), (37, .if_icmp .ne 10, 3, []), (40, .aload_n 0, 1, []), (41, .getfield 110, 3, [5, 26, 0, 582]), (44, .goto 5, 3, []), (47, .bipush (-2), 2, []), (49, .ireturn, 1, [])]
def pm_w_141 : List (Nat × Instr × Nat × List Nat) := [(0, .iload_n 0, 1, []), (1, .iload_n 0, 1, []), (2, .iconst 1, 1, []), (3, .iushr, 1, []), (4, .ldc_w 265, 3, [417, 1431655765]), (7, .iand, 1, []), (8, .isub, 1, []), (9, .istore_n 0, 1, []), (10, .iload_n 0, 1, []), (11, .ldc_w 266, 3, [418, 858993459]), (14, .iand, 1, []), (15, .iload_n 0, 1, []), (16, .iconst 2, 1, []), (17, .iushr, 1, []), (18, .ldc_w 266, 3, [418, 858993459]), (21, .iand, 1, []), (22, .iadd, 1, []), (23, .istore_n 0, 1, []), (24, .iload_n 0, 1, []), (25, .iload_n 0, 1, []), (26, .iconst 4, 1, []), (27, .iushr, 1, []), (28, .iadd, 1, []), (29, .ldc_w 267, 3, [419, 252645135]), (32, .iand, 1, []), (33, .istore_n 0, 1, []), (34, .iload_n 0, 1, []), (35, .iload_n 0, 1, []), (36, .bipush 8, 2, []), (38, .iushr, 1, []), (39, .iadd, 1, []), (40, .istore_n 0, 1, []), (41, .iload_n 0, 1, []), (42, .iload_n 0, 1, []), (43, .bipush 16, 2, []), (45, .iushr, 1, []), (46, .iadd, 1, []), (47, .istore_n 0, 1, []), (48, .iload_n 0, 1, []), (49, .bipush 63, 2, []), (51, .iand, 1, []), (52, .ireturn, 1, [])]
def pm_w_142 : List (Nat × Instr × Nat × List Nat) := [(0, .iconst 0, 1, []), (1, .istore_n 2, 1, []), (2, .aload_n 0, 1, []), (3, .arraylength, 1, []), (4, .istore_n 3, 1, []), (5, .iload_n 2, 1, []), (6, .iload_n 3, 1, []), (7, .if_icmp .ge 13, 3, []), (10, .aload_n 0, 1, []), (11, .iload_n 2, 1, []), (12, .iload_n 1, 1, []), (13, .iastore, 1, []), (14, .iinc 2 1, 3, []), (17, .goto (-12), 3, []), (20, .return_, 1, [])]
def pm_w_143 : List (Nat × Instr × Nat × List Nat) := [(0, .new 7, 3, []), (3, .dup, 1, []), (4, .invokespecial 9, 3, []), (7, .astore_n 1, 1, []), (8, .new 10, 3, []), (11, .dup, 1, []), (12, .invokespecial 12, 3, []), (15, .astore_n 2, 1, []), (16, .iconst 0, 1, []), (17, .istore_n 3, 1, []), (18, .iload_n 3, 1, []), (19, .aload_n 0, 1, []), (20, .arraylength, 1, []), (21, .bipush 6, 2, []), (23, .isub, 1, []), (24, .if_icmp .gt 1099, 3, []), (27, .aload_n 0, 1, []), (28, .iload_n 3, 1, []), (29, .iaload, 1, []), (30, .bipush 31, 2, []), (32, .iand, 1, []), (33, .tableswitch 1084 0 30 #[139, 192, 225, 258, 291, 324, 357, 390, 423, 446, 459, 522, 535, 548, 571, 614, 637, 660, 683, 706, 740, 783, 806, 849, 893, 956, 979, 1002, 1035, 1048, 1061], 139, []), (172, .aload_n 1, 1, []), (173, .aload_n 0, 1, []), (174, .iload_n 3, 1, []), (175, .iconst 1, 1, []), (176, .iadd, 1, []), (177, .iaload, 1, []), (178, .aload_n 0, 1, []), (179, .iload_n 3, 1, []), (180, .iconst 2, 1, []), (181, .iadd, 1, []), (182, .iaload, 1, []), (183, .aload_n 0, 1, []), (184, .iload_n 3, 1, []), (185, .iconst 3, 1, []), (186, .iadd, 1, []), (187, .iaload, 1, []), (188, .aload_n 0, 1, []), (189, .iload_n 3, 1, []), (190, .iconst 4, 1, []), (191, .iadd, 1, []), (192, .iaload, 1, []), (193, .invokevirtual 13, 3, [31, 4, 0, 216, 4]), (196, .aload_n 2, 1, []), (197, .aload_n 0, 1, []), (198, .iload_n 3, 1, []), (199, .iconst 1, 1, []), (200, .iadd, 1, []), (201, .iaload, 1, []), (202, .aload_n 0, 1, []), (203, .iload_n 3, 1, []), (204, .iconst 2, 1, []), (205, .iadd, 1, []), (206, .iaload, 1, []), (207, .aload_n 0, 1, []), (208, .iload_n 3, 1, []), (209, .iconst 3, 1, []), (210, .iadd, 1, []), (211, .iaload, 1, []), (212, .aload_n 0, 1, []), (213, .iload_n 3, 1, []), (214, .iconst 4, 1, []), (215, .iadd, 1, []), (216, .iaload, 1, []), (217, .invokevirtual 17, 3, [79, 4, 0, 647, 5]), (220, .if_icmp .eq 897, 3, []), (223, .iconst 0, 1, []), (224, .ireturn, 1, []), (225, .aload_n 1, 1, []), (226, .aload_n 0, 1, []), (227, .iload_n 3, 1, []), (228, .iconst 1, 1, []), (229, .iadd, 1, []), (230, .iaload, 1, []), (231, .aload_n 0, 1, []), (232, .iload_n 3, 1, []), (233, .iconst 2, 1, []), (234, .iadd, 1, []), (235, .iaload, 1, []), (236, .invokevirtual 18, 3, [35, 2, 0, 289, 4]), (239, .aload_n 2, 1, []), (240, .aload_n 0, 1, []), (241, .iload_n 3, 1, []), (242, .iconst 1, 1, []), (243, .iadd, 1, []), (244, .iaload, 1, []), (245, .aload_n 0, 1, []), (246, .iload_n 3, 1, []), (247, .iconst 2, 1, []), (248, .iadd, 1, []), (249, .iaload, 1, []), (250, .invokevirtual 22, 3, [92, 2, 0, 696, 5]), (253, .if_icmp .eq 864, 3, []), (256, .iconst 0, 1, []), (257, .ireturn, 1, []), (258, .aload_n 1, 1, []), (259, .aload_n 0, 1, []), (260, .iload_n 3, 1, []), (261, .iconst 1, 1, []), (262, .iadd, 1, []), (263, .iaload, 1, []), (264, .aload_n 0, 1, []), (265, .iload_n 3, 1, []), (266, .iconst 2, 1, []), (267, .iadd, 1, []), (268, .iaload, 1, []), (269, .invokevirtual 23, 3, [36, 2, 0, 297, 4]), (272, .aload_n 2, 1, []), (273, .aload_n 0, 1, []), (274, .iload_n 3, 1, []), (275, .iconst 1, 1, []), (276, .iadd, 1, []), (277, .iaload, 1, []), (278, .aload_n 0, 1, []), (279, .iload_n 3, 1, []), (280, .iconst 2, 1, []), (281, .iadd, 1, []), (282, .iaload, 1, []), (283, .invokevirtual 26, 3, [94, 2, 0, 704, 5]), (286, .if_icmp .eq 831, 3, []), (289, .iconst 0, 1, []), (290, .ireturn, 1, []), (291, .aload_n 1, 1, []), (292, .aload_n 0, 1, []), (293, .iload_n 3, 1, []), (294, .iconst 1, 1, []), (295, .iadd, 1, []), (296, .iaload, 1, []), (297, .aload_n 0, 1, []), (298, .iload_n 3, 1, []), (299, .iconst 2, 1, []), (300, .iadd, 1, []), (301, .iaload, 1, []), (302, .invokevirtual 27, 3, [37, 2, 0, 305, 4]), (305, .aload_n 2, 1, []), (306, .aload_n 0, 1, []), (307, .iload_n 3, 1, []), (308, .iconst 1, 1, []), (309, .iadd, 1, []), (310, .iaload, 1, []), (311, .aload_n 0, 1, []), (312, .iload_n 3, 1, []), (313, .iconst 2, 1, []), (314, .iadd, 1, []), (315, .iaload, 1, []), (316, .invokevirtual 30, 3, [96, 2, 0, 712, 5]), (319, .if_icmp .eq 798, 3, []), (322, .iconst 0, 1, []), (323, .ireturn, 1, []), (324, .aload_n 1, 1, []), (325, .aload_n 0, 1, []), (326, .iload_n 3, 1, []), (327, .iconst 1, 1, []), (328, .iadd, 1, []), (329, .iaload, 1, []), (330, .aload_n 0, 1, []), (331, .iload_n 3, 1, []), (332, .iconst 2, 1, []), (333, .iadd, 1, []), (334, .iaload, 1, []), (335, .invokevirtual 31, 3, [38, 2, 0, 316, 4]), (338, .aload_n 2, 1, []), (339, .aload_n 0, 1, []), (340, .iload_n 3, 1, []), (341, .iconst 1, 1, []), (342, .iadd, 1, []), (343, .iaload, 1, []), (344, .aload_n 0, 1, []), (345, .iload_n 3, 1, []), (346, .iconst 2, 1, []), (347, .iadd, 1, []), (348, .iaload, 1, []), (349, .invokevirtual 34, 3, [98, 2, 0, 720, 5]), (352, .if_icmp .eq 765, 3, []), (355, .iconst 0, 1, []), (356, .ireturn, 1, []), (357, .aload_n 1, 1, []), (358, .aload_n 0, 1, []), (359, .iload_n 3, 1, []), (360, .iconst 1, 1, []), (361, .iadd, 1, []), (362, .iaload, 1, []), (363, .aload_n 0, 1, []), (364, .iload_n 3, 1, []), (365, .iconst 2, 1, []), (366, .iadd, 1, []), (367, .iaload, 1, []), (368, .invokevirtual 35, 3, [39, 2, 0, 321, 4]), (371, .aload_n 2, 1, []), (372, .aload_n 0, 1, []), (373, .iload_n 3, 1, []), (374, .iconst 1, 1, []), (375, .iadd, 1, []), (376, .iaload, 1, []), (377, .aload_n 0, 1, []), (378, .iload_n 3, 1, []), (379, .iconst 2, 1, []), (380, .iadd, 1, []), (381, .iaload, 1, []), (382, .invokevirtual 38, 3, [99, 2, 0, 724, 5]), (385, .if_icmp .eq 732, 3, []), (388, .iconst 0, 1, []), (389, .ireturn, 1, []), (390, .aload_n 1, 1, []), (391, .aload_n 0, 1, []), (392, .iload_n 3, 1, []), (393, .iconst 1, 1, []), (394, .iadd, 1, []), (395, .iaload, 1, []), (396, .aload_n 0, 1, []), (397, .iload_n 3, 1, []), (398, .iconst 2, 1, []), (399, .iadd, 1, []), (400, .iaload, 1, []), (401, .invokevirtual 39, 3, [40, 2, 0, 333, 4]), (404, .aload_n 2, 1, []), (405, .aload_n 0, 1, []), (406, .iload_n 3, 1, []), (407, .iconst 1, 1, []), (408, .iadd, 1, []), (409, .iaload, 1, []), (410, .aload_n 0, 1, []), (411, .iload_n 3, 1, []), (412, .iconst 2, 1, []), (413, .iadd, 1, []), (414, .iaload, 1, []), (415, .invokevirtual 42, 3, [101, 2, 0, 732, 5]), (418, .if_icmp .eq 699, 3, []), (421, .iconst 0, 1, []), (422, .ireturn, 1, []), (423, .aload_n 1, 1, []), (424, .aload_n 0, 1, []), (425, .iload_n 3, 1, []), (426, .iconst 1, 1, []), (427, .iadd, 1, []), (428, .iaload, 1, []), (429, .aload_n 0, 1, []), (430, .iload_n 3, 1, []), (431, .iconst 2, 1, []), (432, .iadd, 1, []), (433, .iaload, 1, []), (434, .invokevirtual 43, 3, [43, 2, 0, 368, 4]), (437, .aload_n 2, 1, []), (438, .aload_n 0, 1, []), (439, .iload_n 3, 1, []), (440, .iconst 1, 1, []), (441, .iadd, 1, []), (442, .iaload, 1, []), (443, .aload_n 0, 1, []), (444, .iload_n 3, 1, []), (445, .iconst 2, 1, []), (446, .iadd, 1, []), (447, .iaload, 1, []), (448, .invokevirtual 46, 3, [107, 2, 0, 756, 5]), (451, .if_icmp .eq 666, 3, []), (454, .iconst 0, 1, []), (455, .ireturn, 1, []), (456, .aload_n 1, 1, []), (457, .aload_n 0, 1, []), (458, .iload_n 3, 1, []), (459, .iconst 1, 1, []), (460, .iadd, 1, []), (461, .iaload, 1, []), (462, .invokevirtual 47, 3, [44, 1, 0, 372, 4]), (465, .aload_n 2, 1, []), (466, .aload_n 0, 1, []), (467, .iload_n 3, 1, []), (468, .iconst 1, 1, []), (469, .iadd, 1, []), (470, .iaload, 1, []), (471, .invokevirtual 51, 3, [108, 1, 0, 760, 5]), (474, .if_icmp .eq 643, 3, []), (477, .iconst 0, 1, []), (478, .ireturn, 1, []), (479, .aload_n 1, 1, []), (480, .invokevirtual 52, 3, [45, 0, 0, 376, 4]), (483, .aload_n 2, 1, []), (484, .invokevirtual 56, 3, [109, 0, 0, 764, 5]), (487, .if_icmp .eq 630, 3, []), (490, .iconst 0, 1, []), (491, .ireturn, 1, []), (492, .aload_n 1, 1, []), (493, .aload_n 0, 1, []), (494, .iload_n 3, 1, []), (495, .iconst 1, 1, []), (496, .iadd, 1, []), (497, .iaload, 1, []), (498, .aload_n 0, 1, []), (499, .iload_n 3, 1, []), (500, .iconst 2, 1, []), (501, .iadd, 1, []), (502, .iaload, 1, []), (503, .aload_n 0, 1, []), (504, .iload_n 3, 1, []), (505, .iconst 3, 1, []), (506, .iadd, 1, []), (507, .iaload, 1, []), (508, .aload_n 0, 1, []), (509, .iload_n 3, 1, []), (510, .iconst 4, 1, []), (511, .iadd, 1, []), (512, .iaload, 1, []), (513, .aload_n 0, 1, []), (514, .iload_n 3, 1, []), (515, .iconst 5, 1, []), (516, .iadd, 1, []), (517, .iaload, 1, []), (518, .invokevirtual 57, 3, [46, 5, 0, 384, 4]), (521, .aload_n 2, 1, []), (522, .aload_n 0, 1, []), (523, .iload_n 3, 1, []), (524, .iconst 1, 1, []), (525, .iadd, 1, []), (526, .iaload, 1, []), (527, .aload_n 0, 1, []), (528, .iload_n 3, 1, []), (529, .iconst 2, 1, []), (530, .iadd, 1, []), (531, .iaload, 1, []), (532, .aload_n 0, 1, []), (533, .iload_n 3, 1, []), (534, .iconst 3, 1, []), (535, .iadd, 1, []), (536, .iaload, 1, []), (537, .aload_n 0, 1, []), (538, .iload_n 3, 1, []), (539, .iconst 4, 1, []), (540, .iadd, 1, []), (541, .iaload, 1, []), (542, .aload_n 0, 1, []), (543, .iload_n 3, 1, []), (544, .iconst 5, 1, []), (545, .iadd, 1, []), (546, .iaload, 1, []), (547, .invokevirtual 61, 3, [111, 5, 0, 772, 5]), (550, .if_icmp .eq 567, 3, []), (553, .iconst 0, 1, []), (554, .ireturn, 1, []), (555, .aload_n 1, 1, []), (556, .invokevirtual 62, 3, [51, 0, 0, 407, 4]), (559, .aload_n 2, 1, []), (560, .invokevirtual 65, 3, [114, 0, 0, 784, 5]), (563, .if_icmp .eq 554, 3, []), (566, .iconst 0, 1, []), (567, .ireturn, 1, []), (568, .aload_n 1, 1, []), (569, .invokevirtual 66, 3, [53, 0, 0, 420, 4]), (572, .aload_n 2, 1, []), (573, .invokevirtual 69, 3, [116, 0, 0, 791, 5]), (576, .if_icmp .eq 541, 3, []), (579, .iconst 0, 1, []), (580, .ireturn, 1, []), (581, .aload_n 1, 1, []), (582, .aload_n 0, 1, []), (583, .iload_n 3, 1, []), (584, .iconst 1, 1, []), (585, .iadd, 1, []), (586, .iaload, 1, []), (587, .invokevirtual 70, 3, [54, 1, 0, 424, 4]), (590, .aload_n 2, 1, []), (591, .aload_n 0, 1, []), (592, .iload_n 3, 1, []), (593, .iconst 1, 1, []), (594, .iadd, 1, []), (595, .iaload, 1, []), (596, .invokevirtual 73, 3, [117, 1, 0, 795, 5]), (599, .if_icmp .eq 518, 3, []), (602, .iconst 0, 1, []), (603, .ireturn, 1, []), (604, .aload_n 1, 1, []), (605, .aload_n 0, 1, []), (606, .iload_n 3, 1, []), (607, .iconst 1, 1, []), (608, .iadd, 1, []), (609, .iaload, 1, []), (610, .aload_n 0, 1, []), (611, .iload_n 3, 1, []), (612, .iconst 2, 1, []), (613, .iadd, 1, []), (614, .iaload, 1, []), (615, .aload_n 0, 1, []), (616, .iload_n 3, 1, []), (617, .iconst 3, 1, []), (618, .iadd, 1, []), (619, .iaload, 1, []), (620, .invokevirtual 74, 3, [55, 3, 0, 429, 4]), (623, .aload_n 2, 1, []), (624, .aload_n 0, 1, []), (625, .iload_n 3, 1, []), (626, .iconst 1, 1, []), (627, .iadd, 1, []), (628, .iaload, 1, []), (629, .aload_n 0, 1, []), (630, .iload_n 3, 1, []), (631, .iconst 2, 1, []), (632, .iadd, 1, []), (633, .iaload, 1, []), (634, .aload_n 0, 1, []), (635, .iload_n 3, 1, []), (636, .iconst 3, 1, []), (637, .iadd, 1, []), (638, .iaload, 1, []), (639, .invokevirtual 78, 3, [119, 3, 0, 803, 5]), (642, .if_icmp .eq 475, 3, []), (645, .iconst 0, 1, []), (646, .ireturn, 1, []), (647, .aload_n 1, 1, []), (648, .aload_n 0, 1, []), (649, .iload_n 3, 1, []), (650, .iconst 1, 1, []), (651, .iadd, 1, []), (652, .iaload, 1, []), (653, .invokevirtual 79, 3, [56, 1, 0, 437, 4]), (656, .aload_n 2, 1, []), (657, .aload_n 0, 1, []), (658, .iload_n 3, 1, []), (659, .iconst 1, 1, []), (660, .iadd, 1, []), (661, .iaload, 1, []), (662, .invokevirtual 82, 3, [120, 1, 0, 807, 5]), (665, .if_icmp .eq 452, 3, []), (668, .iconst 0, 1, []), (669, .ireturn, 1, []), (670, .aload_n 1, 1, []), (671, .aload_n 0, 1, []), (672, .iload_n 3, 1, []), (673, .iconst 1, 1, []), (674, .iadd, 1, []), (675, .iaload, 1, []), (676, .invokevirtual 83, 3, [57, 1, 0, 441, 4]), (679, .aload_n 2, 1, []), (680, .aload_n 0, 1, []), (681, .iload_n 3, 1, []), (682, .iconst 1, 1, []), (683, .iadd, 1, []), (684, .iaload, 1, []), (685, .invokevirtual 86, 3, [121, 1, 0, 811, 5]), (688, .if_icmp .eq 429, 3, []), (691, .iconst 0, 1, []), (692, .ireturn, 1, []), (693, .aload_n 1, 1, []), (694, .aload_n 0, 1, []), (695, .iload_n 3, 1, []), (696, .iconst 1, 1, []), (697, .iadd, 1, []), (698, .iaload, 1, []), (699, .invokevirtual 87, 3, [60, 1, 0, 457, 4]), (702, .aload_n 2, 1, []), (703, .aload_n 0, 1, []), (704, .iload_n 3, 1, []), (705, .iconst 1, 1, []), (706, .iadd, 1, []), (707, .iaload, 1, []), (708, .invokevirtual 90, 3, [124, 1, 0, 823, 5]), (711, .if_icmp .eq 406, 3, []), (714, .iconst 0, 1, []), (715, .ireturn, 1, []), (716, .aload_n 1, 1, []), (717, .aload_n 0, 1, []), (718, .iload_n 3, 1, []), (719, .iconst 1, 1, []), (720, .iadd, 1, []), (721, .iaload, 1, []), (722, .invokevirtual 91, 3, [61, 1, 0, 461, 4]), (725, .aload_n 2, 1, []), (726, .aload_n 0, 1, []), (727, .iload_n 3, 1, []), (728, .iconst 1, 1, []), (729, .iadd, 1, []), (730, .iaload, 1, []), (731, .invokevirtual 94, 3, [125, 1, 0, 827, 5]), (734, .if_icmp .eq 383, 3, []), (737, .iconst 0, 1, []), (738, .ireturn, 1, []), (739, .aload_n 1, 1, []), (740, .aload_n 0, 1, []), (741, .iload_n 3, 1, []), (742, .iconst 1, 1, []), (743, .iadd, 1, []), (744, .iaload, 1, []), (745, .aload_n 0, 1, []), (746, .iload_n 3, 1, []), (747, .iconst 2, 1, []), (748, .iadd, 1, []), (749, .iaload, 1, []), (750, .invokevirtual 95, 3, [62, 2, 0, 465, 4]), (753, .aload_n 2, 1, []), (754, .aload_n 0, 1, []), (755, .iload_n 3, 1, []), (756, .iconst 1, 1, []), (757, .iadd, 1, []), (758, .iaload, 1, []), (759, .aload_n 0, 1, []), (760, .iload_n 3, 1, []), (761, .iconst 2, 1, []), (762, .iadd, 1, []), (763, .iaload, 1, []), (764, .invokevirtual 99, 3, [126, 2, 0, 831, 5]), (767, .lcmp, 1, []), (768, .ifCond .eq 349, 3, []), (771, .iconst 0, 1, []), (772, .ireturn, 1, []), (773, .aload_n 1, 1, []), (774, .aload_n 0, 1, []), (775, .iload_n 3, 1, []), (776, .iconst 1, 1, []), (777, .iadd, 1, []), (778, .iaload, 1, []), (779, .aload_n 0, 1, []), (780, .iload_n 3, 1, []), (781, .iconst 2, 1, []), (782, .iadd, 1, []), (783, .iaload, 1, []), (784, .aload_n 0, 1, []), (785, .iload_n 3, 1, []), (786, .iconst 3, 1, []), (787, .iadd, 1, []), (788, .iaload, 1, []), (789, .invokevirtual 100, 3, [64, 3, 0, 474, 4]), (792, .aload_n 2, 1, []), (793, .aload_n 0, 1, []), (794, .iload_n 3, 1, []), (795, .iconst 1, 1, []), (796, .iadd, 1, []), (797, .iaload, 1, []), (798, .aload_n 0, 1, []), (799, .iload_n 3, 1, []), (800, .iconst 2, 1, []), (801, .iadd, 1, []), (802, .iaload, 1, []), (803, .aload_n 0, 1, []), (804, .iload_n 3, 1, []), (805, .iconst 3, 1, []), (806, .iadd, 1, []), (807, .iaload, 1, []), (808, .invokevirtual 103, 3, [128, 3, 0, 839, 5]), (811, .if_icmp .eq 306, 3, []), (814, .iconst 0, 1, []), (815, .ireturn, 1, []), (816, .aload_n 1, 1, []), (817, .aload_n 0, 1, []), (818, .iload_n 3, 1, []), (819, .iconst 1, 1, []), (820, .iadd, 1, []), (821, .iaload, 1, []), (822, .invokevirtual 104, 3, [65, 1, 0, 482, 4]), (825, .aload_n 2, 1, []), (826, .aload_n 0, 1, []), (827, .iload_n 3, 1, []), (828, .iconst 1, 1, []), (829, .iadd, 1, []), (830, .iaload, 1, []), (831, .invokevirtual 107, 3, [129, 1, 0, 843, 5]), (834, .if_icmp .eq 283, 3, []), (837, .iconst 0, 1, []), (838, .ireturn, 1, []), (839, .aload_n 1, 1, []), (840, .aload_n 0, 1, []), (841, .iload_n 3, 1, []), (842, .iconst 1, 1, []), (843, .iadd, 1, []), (844, .iaload, 1, []), (845, .aload_n 0, 1, []), (846, .iload_n 3, 1, []), (847, .iconst 2, 1, []), (848, .iadd, 1, []), (849, .iaload, 1, []), (850, .aload_n 0, 1, []), (851, .iload_n 3, 1, []), (852, .iconst 3, 1, []), (853, .iadd, 1, []), (854, .iaload, 1, []), (855, .invokevirtual 108, 3, [66, 3, 0, 487, 4]), (858, .aload_n 2, 1, []), (859, .aload_n 0, 1, []), (860, .iload_n 3, 1, []), (861, .iconst 1, 1, []), (862, .iadd, 1, []), (863, .iaload, 1, []), (864, .aload_n 0, 1, []), (865, .iload_n 3, 1, []), (866, .iconst 2, 1, []), (867, .iadd, 1, []), (868, .iaload, 1, []), (869, .aload_n 0, 1, []), (870, .iload_n 3, 1, []), (871, .iconst 3, 1, []), (872, .iadd, 1, []), (873, .iaload, 1, []), (874, .invokevirtual 111, 3, [130, 3, 0, 847, 5]), (877, .if_icmp .eq 240, 3, []), (880, .iconst 0, 1, []), (881, .ireturn, 1, []), (882, .aload_n 1, 1, []), (883, .aload_n 0, 1, []), (884, .iload_n 3, 1, []), (885, .iconst 1, 1, []), (886, .iadd, 1, []), (887, .iaload, 1, []), (888, .aload_n 0, 1, []), (889, .iload_n 3, 1, []), (890, .iconst 2, 1, []), (891, .iadd, 1, []), (892, .iaload, 1, []), (893, .aload_n 0, 1, []), (894, .iload_n 3, 1, []), (895, .iconst 3, 1, []), (896, .iadd, 1, []), (897, .iaload, 1, []), (898, .invokevirtual 112, 3, [67, 3, 0, 499, 4]), (901, .aload_n 2, 1, []), (902, .aload_n 0, 1, []), (903, .iload_n 3, 1, []), (904, .iconst 1, 1, []), (905, .iadd, 1, []), (906, .iaload, 1, []), (907, .aload_n 0, 1, []), (908, .iload_n 3, 1, []), (909, .iconst 2, 1, []), (910, .iadd, 1, []), (911, .iaload, 1, []), (912, .aload_n 0, 1, []), (913, .iload_n 3, 1, []), (914, .iconst 3, 1, []), (915, .iadd, 1, []), (916, .iaload, 1, []), (917, .invokevirtual 116, 3, [131, 3, 0, 851, 5]), (920, .lcmp, 1, []), (921, .ifCond .eq 196, 3, []), (924, .iconst 0, 1, []), (925, .ireturn, 1, []), (926, .aload_n 1, 1, []), (927, .aload_n 0, 1, []), (928, .iload_n 3, 1, []), (929, .iconst 1, 1, []), (930, .iadd, 1, []), (931, .iaload, 1, []), (932, .aload_n 0, 1, []), (933, .iload_n 3, 1, []), (934, .iconst 2, 1, []), (935, .iadd, 1, []), (936, .iaload, 1, []), (937, .aload_n 0, 1, []), (938, .iload_n 3, 1, []), (939, .iconst 3, 1, []), (940, .iadd, 1, []), (941, .iaload, 1, []), (942, .aload_n 0, 1, []), (943, .iload_n 3, 1, []), (944, .iconst 4, 1, []), (945, .iadd, 1, []), (946, .iaload, 1, []), (947, .aload_n 0, 1, []), (948, .iload_n 3, 1, []), (949, .iconst 5, 1, []), (950, .iadd, 1, []), (951, .iaload, 1, []), (952, .invokevirtual 117, 3, [68, 5, 0, 504, 4]), (955, .aload_n 2, 1, []), (956, .aload_n 0, 1, []), (957, .iload_n 3, 1, []), (958, .iconst 1, 1, []), (959, .iadd, 1, []), (960, .iaload, 1, []), (961, .aload_n 0, 1, []), (962, .iload_n 3, 1, []), (963, .iconst 2, 1, []), (964, .iadd, 1, []), (965, .iaload, 1, []), (966, .aload_n 0, 1, []), (967, .iload_n 3, 1, []), (968, .iconst 3, 1, []), (969, .iadd, 1, []), (970, .iaload, 1, []), (971, .aload_n 0, 1, []), (972, .iload_n 3, 1, []), (973, .iconst 4, 1, []), (974, .iadd, 1, []), (975, .iaload, 1, []), (976, .aload_n 0, 1, []), (977, .iload_n 3, 1, []), (978, .iconst 5, 1, []), (979, .iadd, 1, []), (980, .iaload, 1, []), (981, .invokevirtual 120, 3, [133, 5, 0, 859, 5]), (984, .if_icmp .eq 133, 3, []), (987, .iconst 0, 1, []), (988, .ireturn, 1, []), (989, .aload_n 1, 1, []), (990, .aload_n 0, 1, []), (991, .iload_n 3, 1, []), (992, .iconst 1, 1, []), (993, .iadd, 1, []), (994, .iaload, 1, []), (995, .invokevirtual 121, 3, [69, 1, 0, 510, 4]), (998, .aload_n 2, 1, []), (999, .aload_n 0, 1, []), (1000, .iload_n 3, 1, []), (1001, .iconst 1, 1, []), (1002, .iadd, 1, []), (1003, .iaload, 1, []), (1004, .invokevirtual 124, 3, [134, 1, 0, 863, 5]), (1007, .if_icmp .eq 110, 3, []), (1010, .iconst 0, 1, []), (1011, .ireturn, 1, []), (1012, .aload_n 1, 1, []), (1013, .aload_n 0, 1, []), (1014, .iload_n 3, 1, []), (1015, .iconst 1, 1, []), (1016, .iadd, 1, []), (1017, .iaload, 1, []), (1018, .invokevirtual 125, 3, [74, 1, 0, 530, 4]), (1021, .aload_n 2, 1, []), (1022, .aload_n 0, 1, []), (1023, .iload_n 3, 1, []), (1024, .iconst 1, 1, []), (1025, .iadd, 1, []), (1026, .iaload, 1, []), (1027, .invokevirtual 128, 3, [136, 1, 0, 871, 5]), (1030, .if_icmp .eq 87, 3, []), (1033, .iconst 0, 1, []), (1034, .ireturn, 1, []), (1035, .aload_n 1, 1, []), (1036, .aload_n 0, 1, []), (1037, .iload_n 3, 1, []), (1038, .iconst 1, 1, []), (1039, .iadd, 1, []), (1040, .iaload, 1, []), (1041, .aload_n 0, 1, []), (1042, .iload_n 3, 1, []), (1043, .iconst 2, 1, []), (1044, .iadd, 1, []), (1045, .iaload, 1, []), (1046, .invokevirtual 129, 3, [75, 2, 0, 534, 4]), (1049, .aload_n 2, 1, []), (1050, .aload_n 0, 1, []), (1051, .iload_n 3, 1, []), (1052, .iconst 1, 1, []), (1053, .iadd, 1, []), (1054, .iaload, 1, []), (1055, .aload_n 0, 1, []), (1056, .iload_n 3, 1, []), (1057, .iconst 2, 1, []), (1058, .iadd, 1, []), (1059, .iaload, 1, []), (1060, .invokevirtual 132, 3, [137, 2, 0, 875, 5]), (1063, .if_icmp .eq 54, 3, []), (1066, .iconst 0, 1, []), (1067, .ireturn, 1, []), (1068, .aload_n 1, 1, []), (1069, .invokevirtual 133, 3, [76, 0, 0, 538, 4]), (1072, .aload_n 2, 1, []), (1073, .invokevirtual 136, 3, [138, 0, 0, 879, 5]), (1076, .if_icmp .eq 41, 3, []), (1079, .iconst 0, 1, []), (1080, .ireturn, 1, []), (1081, .aload_n 1, 1, []), (1082, .invokevirtual 137, 3, [77, 0, 0, 542, 4]), (1085, .aload_n 2, 1, []), (1086, .invokevirtual 140, 3, [139, 0, 0, 883, 5]), (1089, .if_icmp .eq 28, 3, []), (1092, .iconst 0, 1, []), (1093, .ireturn, 1, []), (1094, .aload_n 1, 1, []), (1095, .aload_n 0, 1, []), (1096, .iload_n 3, 1, []), (1097, .iconst 1, 1, []), (1098, .iadd, 1, []), (1099, .iaload, 1, []), (1100, .invokevirtual 141, 3, [78, 1, 0, 546, 4]), (1103, .aload_n 2, 1, []), (1104, .aload_n 0, 1, []), (1105, .iload_n 3, 1, []), (1106, .iconst 1, 1, []), (1107, .iadd, 1, []), (1108, .iaload, 1, []), (1109, .invokevirtual 144, 3, [140, 1, 0, 887, 5]), (1112, .if_icmp .eq 5, 3, []), (1115, .iconst 0, 1, []), (1116, .ireturn, 1, []), (1117, .iinc 3 6, 3, []), (1120, .goto (-1102), 3, []), (1123, .iconst 1, 1, []), (1124, .ireturn, 1, [])]
def pm_rws : List (List (Nat × Instr × Nat × List Nat)) := [pm_w_0, pm_w_1, pm_w_2, pm_w_3, pm_w_4, pm_w_5, pm_w_6, pm_w_7, pm_w_8, pm_w_9, pm_w_10, pm_w_11, pm_w_12, pm_w_13, pm_w_14, pm_w_15, pm_w_16, pm_w_17, pm_w_18, pm_w_19, pm_w_20, pm_w_21, pm_w_22, pm_w_23, pm_w_24, pm_w_25, pm_w_26, pm_w_27, pm_w_28, pm_w_29, pm_w_30, pm_w_31, pm_w_32, pm_w_33, pm_w_34, pm_w_35, pm_w_36, pm_w_37, pm_w_38, pm_w_39, pm_w_40, pm_w_41, pm_w_42, pm_w_43, pm_w_44, pm_w_45, pm_w_46, pm_w_47, pm_w_48, pm_w_49, pm_w_50, pm_w_51, pm_w_52, pm_w_53, pm_w_54, pm_w_55, pm_w_56, pm_w_57, pm_w_58, pm_w_59, pm_w_60, pm_w_61, pm_w_62, pm_w_63, pm_w_64, pm_w_65, pm_w_66, pm_w_67, pm_w_68, pm_w_69, pm_w_70, pm_w_71, pm_w_72, pm_w_73, pm_w_74, pm_w_75, pm_w_76, pm_w_77, pm_w_78, pm_w_79, pm_w_80, pm_w_81, pm_w_82, pm_w_83, pm_w_84, pm_w_85, pm_w_86, pm_w_87, pm_w_88, pm_w_89, pm_w_90, pm_w_91, pm_w_92, pm_w_93, pm_w_94, pm_w_95, pm_w_96, pm_w_97, pm_w_98, pm_w_99, pm_w_100, pm_w_101, pm_w_102, pm_w_103, pm_w_104, pm_w_105, pm_w_106, pm_w_107, pm_w_108, pm_w_109, pm_w_110, pm_w_111, pm_w_112, pm_w_113, pm_w_114, pm_w_115, pm_w_116, pm_w_117, pm_w_118, pm_w_119, pm_w_120, pm_w_121, pm_w_122, pm_w_123, pm_w_124, pm_w_125, pm_w_126, pm_w_127, pm_w_128, pm_w_129, pm_w_130, pm_w_131, pm_w_132, pm_w_133, pm_w_134, pm_w_135, pm_w_136, pm_w_137, pm_w_138, pm_w_139, pm_w_140, pm_w_141, pm_w_142, pm_w_143]
def pm_t : List (MethodName × ByteArray × Nat × Option FieldType × Nat) := [(yX0_become, cX0_become, 5, none, 2),
  (yX0_posts, cX0_posts, 1, some .int, 1),
  (yX0_hasField, cX0_hasField, 2, some .boolean, 0),
  (yX0_hasPost, cX0_hasPost, 2, some .boolean, 2),
  (yX0_letBy, cX0_letBy, 4, some .int, 1),
  (yX0_exists, cX0_exists, 1, some .boolean, 0),
  (yX0_hasDay, cX0_hasDay, 2, some .boolean, 0),
  (yX0_hasBehind, cX0_hasBehind, 2, some .boolean, 0),
  (yX0_goesOn, cX0_goesOn, 5, some .int, 3),
  (yX0_setsOfPosts, cX0_setsOfPosts, 1, some .int, 2),
  (yX1_keep, cX1_keep, 5, some .int, 0),
  (yX1_areSo, cX1_areSo, 4, some .boolean, 0),
  (yX2_faultOfCells, cX2_faultOfCells, 6, some .int, 2),
  (yX2_faultOfLane, cX2_faultOfLane, 3, some .int, 1),
  (yX2_isNothing, cX2_isNothing, 2, some .boolean, 0),
  (yX2_hasCells, cX2_hasCells, 4, some .boolean, 0),
  (yX2_read, cX2_read, 5, none, 1),
  (yX2_renew, cX2_renew, 4, none, 1),
  (yX2_hasCell, cX2_hasCell, 3, some .boolean, 0),
  (yX2_write, cX2_write, 4, none, 0),
  (yX3_firstFault, cX3_firstFault, 3, some .int, 3),
  (yX3_goesOn, cX3_goesOn, 6, some .boolean, 2),
  (yX3_digit, cX3_digit, 1, some .int, 0),
  (yX3_bordersAt, cX3_bordersAt, 1, some .int, 0),
  (yX3_rainsAt, cX3_rainsAt, 1, some .int, 1),
  (yX3_goesOnInBorder, cX3_goesOnInBorder, 2, some .boolean, 1),
  (yX3_kind, cX3_kind, 1, some .int, 0),
  (yX4_begin, cX4_begin, 1, none, 1),
  (yX4_pass, cX4_pass, 9, none, 4),
  (yX4_floodOn, cX4_floodOn, 3, none, 0),
  (yX4_contented, cX4_contented, 4, some .int, 0),
  (yX5_land, cX5_land, 6, some .int, 4),
  (yX5_isSheet, cX5_isSheet, 1, some .boolean, 0),
  (yX5_isLane, cX5_isLane, 1, some .boolean, 0),
  (yX5_isDigit, cX5_isDigit, 1, some .boolean, 0),
  (yX5_ofField, cX5_ofField, 3, some .int, 1),
  (yX5_ofPost, cX5_ofPost, 3, some .int, 3),
  (yX5_lets, cX5_lets, 3, some .int, 3),
  (yX5_limit, cX5_limit, 4, some .int, 3),
  (yX5_rain, cX5_rain, 4, some .int, 1),
  (yX5_wet, cX5_wet, 3, some .int, 6),
  (yX5_blow, cX5_blow, 5, none, 5),
  (yX5_isIn, cX5_isIn, 2, some .boolean, 0),
  (yX5_fell, cX5_fell, 3, some .int, 6),
  (yX5_flood, cX5_flood, 2, some .int, 6),
  (yX5_enough, cX5_enough, 1, some .int, 6),
  (yX5_plan, cX5_plan, 6, some .int, 6),
  (yX5_isAskedOfPlan, cX5_isAskedOfPlan, 1, some .boolean, 0),
  (yX5_areSetsOfPosts, cX5_areSetsOfPosts, 3, some .boolean, 3),
  (yX5_ofPlan, cX5_ofPlan, 3, some .int, 5),
  (yX5_ofPlanField, cX5_ofPlanField, 3, some .int, 1),
  (yX5_papers, cX5_papers, 3, some .int, 6),
  (yX5_isFewer, cX5_isFewer, 2, some .boolean, 1),
  (yX5_most, cX5_most, 5, some .int, 6),
  (yX5_shut, cX5_shut, 4, some .int, 6),
  (yX5_reading, cX5_reading, 4, some .int, 1),
  (yX5_back, cX5_back, 2, some .int, 0),
  (yX5_limits, cX5_limits, 2, some .int, 7),
  (yX5_fitting, cX5_fitting, 7, some .int, 6),
  (yX5_areReadingsSo, cX5_areReadingsSo, 3, some .boolean, 5),
  (yX5_kinds, cX5_kinds, 2, some .int, 7),
  (yX5_rains, cX5_rains, 2, some .int, 7),
  (yX5_odds, cX5_odds, 6, some .long, 6),
  (yX5_setsOfDaysThatFlood, cX5_setsOfDaysThatFlood, 5, some .int, 5),
  (yX5_sheet, cX5_sheet, 4, some .int, 2),
  (yX5_lose, cX5_lose, 3, some .int, 2),
  (yX5_put, cX5_put, 4, some .int, 1),
  (yX5_cell, cX5_cell, 4, some .long, 2),
  (yX5_copy, cX5_copy, 6, some .int, 1),
  (yX5_tell, cX5_tell, 2, some .int, 4),
  (yX5_tellAsFree, cX5_tellAsFree, 3, some .int, 3),
  (yX5_leave, cX5_leave, 2, none, 0),
  (yX5_tellAsCustoms, cX5_tellAsCustoms, 2, some .int, 2),
  (yX5_tellAsPost, cX5_tellAsPost, 2, some .int, 1),
  (yX5_stamp, cX5_stamp, 2, some .int, 3),
  (yX5_as, cX5_as, 3, some .int, 3),
  (yX5_trace, cX5_trace, 1, some .int, 0),
  (yX5_fault, cX5_fault, 1, some .int, 0),
  (yX5_many, cX5_many, 2, some .int, 2),
  (yX6_land, cX6_land, 7, some .int, 4),
  (yX6_isSheet, cX6_isSheet, 1, some .boolean, 1),
  (yX6_within, cX6_within, 3, some .boolean, 0),
  (yX6_isSort, cX6_isSort, 1, some .boolean, 1),
  (yX6_against, cX6_against, 5, some .int, 0),
  (yX6_fails, cX6_fails, 2, some .int, 0),
  (yX6_readLand, cX6_readLand, 3, some .boolean, 3),
  (yX6_isSign, cX6_isSign, 3, some .boolean, 0),
  (yX6_digit, cX6_digit, 4, some .int, 1),
  (yX6_readField, cX6_readField, 3, some .boolean, 2),
  (yX6_readPost, cX6_readPost, 4, some .boolean, 2),
  (yX6_readTheDays, cX6_readTheDays, 3, some .boolean, 2),
  (yX6_takeLand, cX6_takeLand, 2, none, 0),
  (yX6_ofField, cX6_ofField, 3, some .int, 1),
  (yX6_isField, cX6_isField, 2, some .boolean, 0),
  (yX6_ofPost, cX6_ofPost, 3, some .int, 1),
  (yX6_isPost, cX6_isPost, 2, some .boolean, 0),
  (yX6_lets, cX6_lets, 3, some .int, 1),
  (yX6_letsBy, cX6_letsBy, 4, some .int, 0),
  (yX6_limit, cX6_limit, 4, some .int, 1),
  (yX6_rain, cX6_rain, 4, some .int, 1),
  (yX6_isDay, cX6_isDay, 2, some .boolean, 0),
  (yX6_wet, cX6_wet, 3, some .int, 4),
  (yX6_goDays, cX6_goDays, 4, none, 3),
  (yX6_begin, cX6_begin, 2, none, 0),
  (yX6_goDay, cX6_goDay, 7, none, 2),
  (yX6_goesOn, cX6_goesOn, 4, some .int, 1),
  (yX6_falls, cX6_falls, 4, none, 0),
  (yX6_fell, cX6_fell, 3, some .int, 4),
  (yX6_flood, cX6_flood, 2, some .int, 4),
  (yX6_enough, cX6_enough, 1, some .int, 4),
  (yX6_enoughSet, cX6_enoughSet, 3, some .int, 0),
  (yX6_plan, cX6_plan, 9, some .int, 3),
  (yX6_posts, cX6_posts, 1, some .int, 0),
  (yX6_tellPlan, cX6_tellPlan, 3, some .int, 1),
  (yX6_papers, cX6_papers, 3, some .int, 4),
  (yX6_size, cX6_size, 3, some .int, 0),
  (yX6_most, cX6_most, 5, some .int, 4),
  (yX6_shut, cX6_shut, 4, some .int, 4),
  (yX6_doesFlood, cX6_doesFlood, 4, some .boolean, 3),
  (yX6_reading, cX6_reading, 4, some .int, 1),
  (yX6_back, cX6_back, 2, some .int, 1),
  (yX6_limits, cX6_limits, 5, some .int, 4),
  (yX6_areSo, cX6_areSo, 3, some .boolean, 3),
  (yX6_areSoBehind, cX6_areSoBehind, 3, some .boolean, 0),
  (yX6_kinds, cX6_kinds, 5, some .int, 4),
  (yX6_rains, cX6_rains, 5, some .int, 4),
  (yX6_odds, cX6_odds, 5, some .long, 4),
  (yX6_inLeastTerms, cX6_inLeastTerms, 11, some .long, 0),
  (yX6_sheet, cX6_sheet, 5, some .int, 2),
  (yX6_lose, cX6_lose, 3, some .int, 2),
  (yX6_put, cX6_put, 4, some .int, 2),
  (yX6_cell, cX6_cell, 4, some .long, 2),
  (yX6_lost, cX6_lost, 2, some .long, 0),
  (yX6_copy, cX6_copy, 10, some .int, 2),
  (yX6_tell, cX6_tell, 3, some .int, 1),
  (yX6_begins, cX6_begins, 2, none, 0),
  (yX6_stamp, cX6_stamp, 2, some .int, 1),
  (yX6_as, cX6_as, 3, some .int, 1),
  (yX6_trace, cX6_trace, 1, some .int, 0),
  (yX6_fault, cX6_fault, 1, some .int, 0),
  (yX6_many, cX6_many, 2, some .int, 1),
  (yJ6_bitCount_0f7a4, cJ6_bitCount_0f7a4, 1, some .int, 0),
  (yJ7_fill_53178, cJ7_fill_53178, 4, none, 0),
  (yL_law, cL_law, 4, some .boolean, 8)]
end
section
/-! The pure machine's runs, and what its words and worlds are. -/
def pm_row (y : Nat) : MethodName × ByteArray × Nat × Option FieldType × Nat := (pm_t[y]?).getD (yL_law, cL_law, 4, none, 0)
def pm_nm (y : Nat) : MethodName := (pm_row y).1
def pm_by (y : Nat) : ByteArray := (pm_row y).2.1
def pm_ml (y : Nat) : Nat := (pm_row y).2.2.1
def pm_ret (y : Nat) : Option FieldType := (pm_row y).2.2.2.1
def pm_rk (y : Nat) : Nat := (pm_row y).2.2.2.2
def pm_rwf (y : Nat) : List (Nat × Instr × Nat × List Nat) := (pm_rws[y]?).getD []
def pm_rb (y : Nat) : Bool := match pm_ret y with
  | some .boolean => true
  | _ => false
def pm_next (X : pm_X) (y : Nat) (cf : pm_C) : pm_A := match pm_find (pm_rwf y) cf.1 with
  | some r => pm_stp X (pm_rb y) cf.1 r.1 r.2.2 cf.2.1 cf.2.2.1 cf.2.2.2
  | none => pm_bad
def pm_X0 : pm_X := (0, fun _ => 0)
def pm_ex : Nat → pm_X → Nat → pm_C → Option pm_O
  | 0, _, _, _ => none
  | n + 1, X, y, cf => match pm_next X y cf with
    | .inl c2 => pm_ex n X y c2
    | .inr (.inl r) => some r
    | .inr (.inr (.inl q)) => if (pm_args q.2.1).length ≤ pm_ml q.1 then (match pm_ex n pm_X0 q.1 (0, pm_ent q.2.1 (pm_ml q.1), [], q.2.2.2.2.2) with
      | some r => pm_ex n X y (q.2.2.1, q.2.2.2.1, pm_psh r.1 q.2.2.2.2.1, r.2)
      | none => none) else none
    | .inr (.inr (.inr _)) => none
/-! words -/
def pm_isn (w : Cond) : Bool := match w with
  | .fieldLinkNest _ _ _ _ _ _ => true
  | .methodLinkNest _ _ _ _ => true
  | _ => false
def pm_gw : List Cond := lw_tbl.filter goodWord
def pm_nw : List Cond := lw_tbl.filter pm_isn
theorem pm_gw_of {w : Cond} (h : w ∈ lw_tbl) (g : goodWord w = true) : w ∈ pm_gw := List.mem_filter.mpr ⟨h, g⟩
theorem pm_nw_of {w : Cond} (h : w ∈ lw_tbl) (g : pm_isn w = true) : w ∈ pm_nw := List.mem_filter.mpr ⟨h, g⟩
theorem pm_gw_good {w : Cond} (h : w ∈ pm_gw) : goodWord w = true := (List.mem_filter.mp h).2
abbrev pm_cls : List vw_C := [(RX0, TX0, 7), (RX1, TX1, 4), (RX2, TX2, 3), (RX4, TX4, 6), (RX5, TX5, 7), (RX6, TX6, 30)]
theorem pm_nw_warm {s U : State} (hW : s.WarmedH U.vm) (h : ∀ w ∈ pm_nw, va_Nw w s) : ∀ w ∈ pm_nw, va_Nw w U := by
  intro w hw
  have h1 := h w hw
  have h2 := (List.mem_filter.mp hw).2
  unfold pm_isn at h2
  split at h2
  · exact va_Nw.warmF hW h1
  · exact va_Nw.warmM hW h1
  · cases h2
theorem pm_nw_same {u U : State} (h : u.vm = U.vm) (hz : ∀ w ∈ pm_nw, va_Nw w u) : ∀ w ∈ pm_nw, va_Nw w U := by
  intro w hw
  have h1 := hz w hw
  have h2 := (List.mem_filter.mp hw).2
  unfold pm_isn at h2
  split at h2
  · exact va_Nw.same rfl h h1
  · exact va_Nw.same rfl h h1
  · cases h2
/-! values, locals -/
def pm_to (ad : Nat → Nat) (v : pm_V) : Value := match v with
  | .inl x => .int x
  | .inr (.inl k) => .ref (ad k)
  | .inr (.inr z) => .long z
def pm_loc (ad : Nat → Nat) : Nat → pm_L → List (Nat × Value)
  | _, [] => []
  | i, some v :: t => (i, pm_to ad v) :: pm_loc ad (i + 1) t
  | i, none :: t => pm_loc ad (i + 1) t
theorem pm_loc_iff {ad : Nat → Nat} {q : Nat × Value} : ∀ (ls : pm_L) (i : Nat), q ∈ pm_loc ad i ls ↔ ∃ (j : Nat) (v : pm_V), ls[j]? = some (some v) ∧ q = (i + j, pm_to ad v)
  | [], i => by simp [pm_loc]
  | some w :: t, i => by
    rw [pm_loc, List.mem_cons, pm_loc_iff t (i + 1)]
    constructor
    · rintro (h | ⟨j, v, h1, h2⟩)
      · exact ⟨0, w, rfl, by rw [h]; rfl⟩
      · exact ⟨j + 1, v, h1, by rw [h2]; congr 1; omega⟩
    · rintro ⟨j, v, h1, h2⟩
      cases j with
      | zero =>
        simp at h1
        subst h1
        exact Or.inl h2
      | succ j => exact Or.inr ⟨j, v, by simpa using h1, by rw [h2]; congr 1; omega⟩
  | none :: t, i => by
    rw [pm_loc, pm_loc_iff t (i + 1)]
    constructor
    · rintro ⟨j, v, h1, h2⟩
      exact ⟨j + 1, v, h1, by rw [h2]; congr 1; omega⟩
    · rintro ⟨j, v, h1, h2⟩
      cases j with
      | zero => simp at h1
      | succ j => exact ⟨j, v, by simpa using h1, by rw [h2]; congr 1; omega⟩
theorem pm_get_at {ls : pm_L} {k : Nat} {v : pm_V} (h : pm_get ls k = some v) : ls[k]? = some (some v) := by
  unfold pm_get at h
  split at h
  · rename_i w hw
    cases h
    exact hw
  · cases h
theorem pm_loc_get {ad : Nat → Nat} {ls : pm_L} {k : Nat} {v : pm_V} (h : pm_get ls k = some v) : (k, pm_to ad v) ∈ pm_loc ad 0 ls :=
  (pm_loc_iff ls 0).mpr ⟨k, v, pm_get_at h, by rw [Nat.zero_add]⟩
theorem pm_nlz_some {o : Option pm_V} {w : pm_V} (ad : Nat → Nat) (h : pm_nlz o = some w) : o = some w ∧ ¬ (pm_to ad w).category = 2 := by
  unfold pm_nlz at h
  split at h
  · cases h; exact ⟨rfl, by simp [pm_to, Value.category]⟩
  · cases h; exact ⟨rfl, by simp [pm_to, Value.category]⟩
  · cases h
theorem pm_set_at (ad : Nat → Nat) {v w : pm_V} : ∀ (ls : pm_L) (k j : Nat), (pm_set ls k v)[j]? = some (some w) → (j = k ∧ w = v) ∨ (j ≠ k ∧ ls[j]? = some (some w) ∧ (j + 1 = k → ¬ (pm_to ad w).category = 2))
  | [], k, j, h => by simp [pm_set] at h
  | o :: t, 0, j, h => by
    cases j with
    | zero => simp [pm_set] at h; exact Or.inl ⟨rfl, h.symm⟩
    | succ j => exact Or.inr ⟨by omega, by simpa [pm_set] using h, fun q => by omega⟩
  | o :: [], 1, j, h => by
    cases j with
    | zero =>
      simp [pm_set] at h
      obtain ⟨h1, h2⟩ := pm_nlz_some ad h
      exact Or.inr ⟨by omega, by rw [h1]; rfl, fun _ => h2⟩
    | succ j => simp [pm_set] at h
  | o :: o2 :: t, 1, j, h => by
    cases j with
    | zero =>
      simp [pm_set] at h
      obtain ⟨h1, h2⟩ := pm_nlz_some ad h
      exact Or.inr ⟨by omega, by rw [h1]; rfl, fun _ => h2⟩
    | succ j =>
      cases j with
      | zero => simp [pm_set] at h; exact Or.inl ⟨rfl, h.symm⟩
      | succ j => exact Or.inr ⟨by omega, by simpa [pm_set] using h, fun q => by omega⟩
  | o :: t, k + 2, j, h => by
    cases j with
    | zero => exact Or.inr ⟨by omega, by simpa [pm_set] using h, fun q => by omega⟩
    | succ j =>
      have h1 : (pm_set t (k + 1) v)[j]? = some (some w) := by simpa [pm_set] using h
      rcases pm_set_at ad t (k + 1) j h1 with ⟨a, b⟩ | ⟨a, b, d⟩
      · exact Or.inl ⟨by omega, b⟩
      · exact Or.inr ⟨by omega, by simpa using b, fun q => d (by omega)⟩
theorem pm_setL_at (ad : Nat → Nat) {z : Int64} {w : pm_V} : ∀ (ls : pm_L) (k j : Nat), (pm_setL ls k z)[j]? = some (some w) → (j = k ∧ w = .inr (.inr z)) ∨ (j ≠ k ∧ j ≠ k + 1 ∧ ls[j]? = some (some w) ∧ (j + 1 = k → ¬ (pm_to ad w).category = 2))
  | [], k, j, h => by simp [pm_setL] at h
  | [o], 0, j, h => by
    cases j with
    | zero => simp [pm_setL] at h; exact Or.inl ⟨rfl, h.symm⟩
    | succ j => simp [pm_setL] at h
  | o :: o2 :: t, 0, j, h => by
    cases j with
    | zero => simp [pm_setL] at h; exact Or.inl ⟨rfl, h.symm⟩
    | succ j =>
      cases j with
      | zero => simp [pm_setL] at h
      | succ j => exact Or.inr ⟨by omega, by omega, by simpa [pm_setL] using h, fun q => by omega⟩
  | [o], 1, j, h => by
    cases j with
    | zero =>
      simp [pm_setL] at h
      obtain ⟨h1, h2⟩ := pm_nlz_some ad h
      exact Or.inr ⟨by omega, by omega, by rw [h1]; rfl, fun _ => h2⟩
    | succ j => simp [pm_setL] at h
  | [o, o2], 1, j, h => by
    cases j with
    | zero =>
      simp [pm_setL] at h
      obtain ⟨h1, h2⟩ := pm_nlz_some ad h
      exact Or.inr ⟨by omega, by omega, by rw [h1]; rfl, fun _ => h2⟩
    | succ j =>
      cases j with
      | zero => simp [pm_setL] at h; exact Or.inl ⟨rfl, h.symm⟩
      | succ j => simp [pm_setL] at h
  | o :: o2 :: o3 :: t, 1, j, h => by
    cases j with
    | zero =>
      simp [pm_setL] at h
      obtain ⟨h1, h2⟩ := pm_nlz_some ad h
      exact Or.inr ⟨by omega, by omega, by rw [h1]; rfl, fun _ => h2⟩
    | succ j =>
      cases j with
      | zero => simp [pm_setL] at h; exact Or.inl ⟨rfl, h.symm⟩
      | succ j =>
        cases j with
        | zero => simp [pm_setL] at h
        | succ j => exact Or.inr ⟨by omega, by omega, by simpa [pm_setL] using h, fun q => by omega⟩
  | o :: t, k + 2, j, h => by
    cases j with
    | zero => exact Or.inr ⟨by omega, by omega, by simpa [pm_setL] using h, fun q => by omega⟩
    | succ j =>
      have h1 : (pm_setL t (k + 1) z)[j]? = some (some w) := by simpa [pm_setL] using h
      rcases pm_setL_at ad t (k + 1) j h1 with ⟨a, b⟩ | ⟨a, b, d, f⟩
      · exact Or.inl ⟨by omega, b⟩
      · exact Or.inr ⟨by omega, by omega, by simpa using d, fun q => f (by omega)⟩
theorem pm_lv_set {ad : Nat → Nat} {ls : pm_L} {k n : Nat} {v : pm_V} {A : Array Slot} (h : lv_has A n ((k, pm_to ad v) :: (pm_loc ad 0 ls).filter (fun q => !(q.1 == k) && !(q.1 + 1 == k && q.2.category == 2)))) : lv_has A n (pm_loc ad 0 (pm_set ls k v)) := by
  refine ⟨h.1, h.2.1, fun q hq => h.2.2 q ?_⟩
  obtain ⟨j, w, h1, rfl⟩ := (pm_loc_iff _ 0).mp hq
  rw [Nat.zero_add]
  rcases pm_set_at ad ls k j h1 with ⟨rfl, rfl⟩ | ⟨a, b, d⟩
  · exact List.mem_cons_self
  · refine List.mem_cons_of_mem _ (List.mem_filter.mpr ⟨(pm_loc_iff ls 0).mpr ⟨j, w, b, by rw [Nat.zero_add]⟩, ?_⟩)
    simp [a]
    exact (Decidable.em (j + 1 = k)).elim (fun h => Or.inr (d h)) Or.inl
theorem pm_lv_setL {ad : Nat → Nat} {ls : pm_L} {k n : Nat} {z : Int64} {A : Array Slot} (h : lv_has A n ((k, .long z) :: (pm_loc ad 0 ls).filter (fun q => !(q.1 == k) && (!(q.1 == k + 1) && !(q.1 + 1 == k && q.2.category == 2))))) : lv_has A n (pm_loc ad 0 (pm_setL ls k z)) := by
  refine ⟨h.1, h.2.1, fun q hq => h.2.2 q ?_⟩
  obtain ⟨j, w, h1, rfl⟩ := (pm_loc_iff _ 0).mp hq
  rw [Nat.zero_add]
  rcases pm_setL_at ad ls k j h1 with ⟨rfl, rfl⟩ | ⟨a, a2, b, d⟩
  · exact List.mem_cons_self
  · refine List.mem_cons_of_mem _ (List.mem_filter.mpr ⟨(pm_loc_iff ls 0).mpr ⟨j, w, b, by rw [Nat.zero_add]⟩, ?_⟩)
    simp [a, a2]
    exact (Decidable.em (j + 1 = k)).elim (fun h => Or.inr (d h)) Or.inl
theorem pm_loc_none {ad : Nat → Nat} {q : Nat × Value} (m i : Nat) : ¬ q ∈ pm_loc ad i (List.replicate m none) := by
  intro h
  obtain ⟨j, w, h1, -⟩ := (pm_loc_iff _ i).mp h
  rw [List.getElem?_replicate] at h1
  split at h1 <;> simp at h1
theorem pm_loc_args {ad : Nat → Nat} {q : Nat × Value} (m : Nat) : ∀ (vs : List pm_V) (i : Nat), q ∈ pm_loc ad i (pm_args vs ++ List.replicate m none) → q ∈ lv_args i (vs.map (pm_to ad))
  | [], i, h => absurd h (by simpa [pm_args] using pm_loc_none m i)
  | .inl x :: t, i, h => by
    simp only [pm_args, List.cons_append, pm_loc, List.mem_cons] at h
    simp only [List.map_cons, lv_args, List.mem_cons]
    rcases h with h | h
    · exact Or.inl h
    · exact Or.inr (by simpa [pm_to, Value.category] using pm_loc_args m t (i + 1) h)
  | .inr (.inl x) :: t, i, h => by
    simp only [pm_args, List.cons_append, pm_loc, List.mem_cons] at h
    simp only [List.map_cons, lv_args, List.mem_cons]
    rcases h with h | h
    · exact Or.inl h
    · exact Or.inr (by simpa [pm_to, Value.category] using pm_loc_args m t (i + 1) h)
  | .inr (.inr x) :: t, i, h => by
    simp only [pm_args, List.cons_append, pm_loc, List.mem_cons] at h
    simp only [List.map_cons, lv_args, List.mem_cons]
    rcases h with h | h
    · exact Or.inl h
    · exact Or.inr (by simpa [pm_to, Value.category] using pm_loc_args m t (i + 1 + 1) h)
/-! worlds -/
def pm_fs (ad : Nat → Nat) (f : Nat → Int32) : Nat → List (Option Nat) → List Value
  | _, [] => []
  | j, some q :: t => .ref (ad q) :: pm_fs ad f (j + 1) t
  | j, none :: t => .int (f j) :: pm_fs ad f (j + 1) t
def pm_e (ad : Nat → Nat) (cI cQ : ClassId) (M : pm_M) (k : Nat) (sh : pm_S) : va_E := match sh with
  | .inl n => .inl (cI, n, .inl (M k))
  | .inr (.inl ks) => .inl (cQ, ks.length, .inr (.inr (.inr (.inr (fun i => (ks[i]?).map ad)))))
  | .inr (.inr q) => .inr (q.1, pm_fs ad (M k) 0 q.2)
def pm_wl (ad : Nat → Nat) (cI cQ : ClassId) (M : pm_M) : Nat → List pm_S → va_W
  | _, [] => []
  | k, sh :: t => (ad k, pm_e ad cI cQ M k sh) :: pm_wl ad cI cQ M (k + 1) t
def pm_w (ad : Nat → Nat) (cI cQ : ClassId) (M : pm_M) : va_W := pm_wl ad cI cQ M 0 pm_shl
theorem pm_wl_get {ad : Nat → Nat} {cI cQ : ClassId} {M : pm_M} : ∀ (l : List pm_S) (i k : Nat), (pm_wl ad cI cQ M i l)[k]? = (l[k]?).map (fun sh => (ad (i + k), pm_e ad cI cQ M (i + k) sh))
  | [], i, k => by simp [pm_wl]
  | sh :: t, i, 0 => by simp [pm_wl]
  | sh :: t, i, k + 1 => by
    have h := pm_wl_get (ad := ad) (cI := cI) (cQ := cQ) (M := M) t (i + 1) k
    simp only [pm_wl, List.getElem?_cons_succ]
    rw [h, show i + 1 + k = i + (k + 1) by omega]
theorem pm_w_get {ad : Nat → Nat} {cI cQ : ClassId} {M : pm_M} {k : Nat} {sh : pm_S} (h : pm_sh k = some sh) : (pm_w ad cI cQ M)[k]? = some (ad k, pm_e ad cI cQ M k sh) := by
  unfold pm_w
  rw [pm_wl_get, Nat.zero_add, show pm_shl[k]? = some sh from h]
  rfl
theorem pm_e_same {ad : Nat → Nat} {cI cQ : ClassId} {M M2 : pm_M} {k : Nat} {sh : pm_S} (h : M2 k = M k) : pm_e ad cI cQ M2 k sh = pm_e ad cI cQ M k sh := by
  unfold pm_e
  rw [h]
theorem pm_w_set {ad : Nat → Nat} {cI cQ : ClassId} {M M2 : pm_M} {k : Nat} {sh : pm_S} (h : pm_sh k = some sh) (hM : ∀ a, a ≠ k → M2 a = M a) : (pm_w ad cI cQ M).set k (ad k, pm_e ad cI cQ M2 k sh) = pm_w ad cI cQ M2 := by
  apply List.ext_getElem?
  intro j
  rw [List.getElem?_set]
  by_cases hj : k = j
  · subst hj
    have hl : k < (pm_w ad cI cQ M).length := (List.getElem?_eq_some_iff.mp (pm_w_get (ad := ad) (cI := cI) (cQ := cQ) (M := M) h)).1
    rw [if_pos rfl, if_pos hl, pm_w_get h]
  · rw [if_neg hj]
    unfold pm_w
    rw [pm_wl_get, pm_wl_get]
    cases hs : pm_shl[j]? with
    | none => rfl
    | some sj =>
      simp only [Option.map_some, Nat.zero_add]
      rw [pm_e_same (hM j (fun q => hj q.symm))]
theorem pm_fs_get {ad : Nat → Nat} {f : Nat → Int32} : ∀ (l : List (Option Nat)) (i j : Nat), (pm_fs ad f i l)[j]? = (l[j]?).map (fun o => match o with
    | some q => Value.ref (ad q)
    | none => Value.int (f (i + j)))
  | [], i, j => by simp [pm_fs]
  | some q :: t, i, 0 => by simp [pm_fs]
  | none :: t, i, 0 => by simp [pm_fs]
  | some q :: t, i, j + 1 => by
    simp only [pm_fs, List.getElem?_cons_succ]
    rw [pm_fs_get t (i + 1) j, show i + 1 + j = i + (j + 1) by omega]
  | none :: t, i, j + 1 => by
    simp only [pm_fs, List.getElem?_cons_succ]
    rw [pm_fs_get t (i + 1) j, show i + 1 + j = i + (j + 1) by omega]
theorem pm_fs_set {ad : Nat → Nat} {f : Nat → Int32} {l : List (Option Nat)} {j : Nat} {v : Int32} (h : l[j]? = some none) : (pm_fs ad f 0 l).set j (.int v) = pm_fs ad (fun b => if b = j then v else f b) 0 l := by
  apply List.ext_getElem?
  intro q
  rw [List.getElem?_set, pm_fs_get, pm_fs_get]
  by_cases hq : j = q
  · subst hq
    have hl : j < (pm_fs ad f 0 l).length := by
      have h1 := pm_fs_get (ad := ad) (f := f) l 0 j
      rw [h] at h1
      exact (List.getElem?_eq_some_iff.mp h1).1
    simp [h, hl]
  · rw [if_neg hq]
    cases hl : l[q]? with
    | none => rfl
    | some o =>
      cases o with
      | some z => rfl
      | none => simp [Ne.symm hq]
end
section
/-! What a row of the tables must be, and one step of the machine. -/
def pm_ln (i : Instr) : Option Nat := match i with
  | .iload_n _ => some 1 | .iload _ => some 2 | .aload_n _ => some 1 | .aload _ => some 2 | .lload_n _ => some 1 | .lload _ => some 2
  | .istore_n _ => some 1 | .istore _ => some 2 | .lstore _ => some 2 | .iinc _ _ => some 3 | .iconst _ => some 1 | .bipush _ => some 2 | .sipush _ => some 3 | .lconst _ => some 1
  | .ldc_w _ => some 3 | .ldc2_w _ => some 3 | .dup => some 1 | .dup2 => some 1
  | .iadd => some 1 | .isub => some 1 | .imul => some 1 | .iand => some 1 | .ior => some 1 | .ishl => some 1 | .ishr => some 1 | .iushr => some 1 | .irem => some 1
  | .i2l => some 1 | .i2b => some 1 | .i2s => some 1 | .lcmp => some 1 | .ldiv => some 1 | .lrem => some 1 | .lshl => some 1
  | .ifCond _ _ => some 3 | .if_icmp _ _ => some 3 | .goto _ => some 3
  | .getfield _ => some 3 | .putfield _ => some 3 | .iaload => some 1 | .iastore => some 1 | .aaload => some 1 | .arraylength => some 1
  | .invokevirtual _ => some 3 | .invokestatic _ => some 3 | .ireturn => some 1 | .lreturn => some 1 | .return_ => some 1
  | _ => none
def pm_fld (own : String) (ix ci j nest wi : Nat) : Bool := match pm_cls[ci]? with
  | some (C, T, N) => decide (j < N) && decide ((T j).1 = C) && (if nest = 0 then decide (lw_tbl[wi]? = some (.fieldLink own ix C (T j).2.1 (T j).2.2.1)) else decide (lw_tbl[wi]? = some (.fieldLinkNest own ix C (T j).2.1 (T j).2.2.1 "WeatherPass")))
  | none => false
def pm_fli (ci j : Nat) : Bool := match pm_cls[ci]? with
  | some (_, T, _) => (!(T j).2.2.2) && decide (parseFieldDescriptor (T j).2.2.1 = some .int)
  | none => false
def pm_lnk (own : String) (ix y2 nest wi : Nat) : Bool := if nest = 0 then decide (lw_tbl[wi]? = some (.methodLink own ix (pm_nm y2))) else decide (lw_tbl[wi]? = some (.methodLinkNest own ix (pm_nm y2) "WeatherPass"))
def pm_off (pc : Nat) (off : Int) : Bool := decide (0 ≤ (pc : Int) + off)
def pm_stat : List Nat := [20, 21, 22, 23, 24, 25, 26, 32, 33, 34, 42, 47, 52, 80, 81, 82, 115, 127, 141, 142]
def pm_okx (y : Nat) (pc : Nat) (i : Instr) (ax : List Nat) : Bool := match i with
  | .istore_n k => decide ((k : Nat) < pm_ml y)
  | .istore k => decide (k < pm_ml y)
  | .lstore k => decide (k + 1 < pm_ml y)
  | .iinc k _ => decide (k < pm_ml y)
  | .goto o => pm_off pc o
  | .ifCond _ o => pm_off pc o
  | .if_icmp _ o => pm_off pc o
  | .tableswitch d _ _ os => pm_off pc d && os.toList.all (pm_off pc)
  | .lookupswitch d ps => pm_off pc d && ps.toList.all (fun q => pm_off pc q.2) && ((ps.toList.zip (ps.toList.drop 1)).all (fun (a, next) => a.1 < next.1))
  | .ldc_w ix => (match ax with
    | [wi, v] => decide (lw_tbl[wi]? = some (.constant (pm_nm y).cls ix (Int32.ofNat v)))
    | _ => true)
  | .ldc2_w ix => (match ax with
    | [wi, v] => decide (lw_tbl[wi]? = some (.constantLong (pm_nm y).cls ix (Int64.ofNat v)))
    | _ => true)
  | .getfield ix => (match ax with
    | [ci, j, nest, wi] => pm_fld (pm_nm y).cls ix ci j nest wi
    | _ => true)
  | .putfield ix => (match ax with
    | [ci, j, nest, wi] => pm_fld (pm_nm y).cls ix ci j nest wi && pm_fli ci j
    | _ => true)
  | .invokevirtual ix => (match ax with
    | [y2, n, nest, wi, ci] => pm_lnk (pm_nm y).cls ix y2 nest wi && decide (y2 < 143) && decide (pm_rk y2 < pm_rk y) && (!pm_stat.contains y2) && decide ((pm_cls[ci]?).map (fun q => q.1) = some (pm_nm y2).cls) && decide ((parseMethodDescriptor (pm_nm y2).desc).map (fun d => d.parameters.length) = some n)
    | _ => true)
  | .invokestatic ix => (match ax with
    | [y2, n, nest, wi] => pm_lnk (pm_nm y).cls ix y2 nest wi && decide (y2 < 143) && decide (pm_rk y2 < pm_rk y) && (pm_stat.contains y2) && decide ((parseMethodDescriptor (pm_nm y2).desc).map (fun d => d.parameters.length) = some n)
    | [wi] => decide (lw_tbl[wi]? = some (.methodLink (pm_nm y).cls ix arraycopyName)) && decide (1 ≤ pm_rk y)
    | [wi, w, _] => (if w = 0 then decide (lw_tbl[wi]? = some (.methodLink (pm_nm y).cls ix Lib.Math.max.name)) else decide (lw_tbl[wi]? = some (.methodLink (pm_nm y).cls ix Lib.Math.min.name))) && decide (1 ≤ pm_rk y)
    | _ => true)
  | .ireturn => decide (pm_ret y = some .int) || decide (pm_ret y = some .boolean)
  | .lreturn => decide (pm_ret y = some .long)
  | .return_ => decide (pm_ret y = none)
  | _ => true
def pm_okr (y : Nat) (r : Nat × Instr × Nat × List Nat) : Bool :=
  decide (decode (pm_by y) r.1 = .ok (r.2.1, r.2.2.1)) && (match pm_ln r.2.1 with
    | some n => decide (r.2.2.1 = n)
    | none => true) && pm_okx y r.1 r.2.1 r.2.2.2
theorem pm_find_mem : ∀ (l : List (Nat × Instr × Nat × List Nat)) (pc : Nat) (r : Instr × Nat × List Nat), pm_find l pc = some r → (pc, r) ∈ l
  | [], pc, r, h => by simp [pm_find] at h
  | q :: t, pc, r, h => by
    unfold pm_find at h
    split at h
    · rename_i h1
      cases h
      rw [← h1]
      exact List.mem_cons_self
    · exact List.mem_cons_of_mem _ (pm_find_mem t pc r h)
/-- the class files' part of a class's words -/
def pm_okc : Prop := ∀ (ci : Nat) (C : String) (T : u_T) (N : Nat), pm_cls[ci]? = some (C, T, N) → (∀ w ∈ u_ws C T N, w ∈ pm_gw) ∧ (∃ ty : Nat → FieldType, ∀ k, k < N → parseFieldDescriptor (T k).2.2.1 = some (ty k)) ∧ (∀ a, a < N → ∀ b, b < N → a ≠ b → (T a).2.1 ≠ (T b).2.1)
/-- what stays true through a method of the pure machine -/
def pm_E (p : Program) (s : State) (m : MethodId) (args : Array Value) (c : Code) (H0 : Heap) (A : Nat → Prop) (dC : Nat → ClassId) (dI : Nat → Nat → Nat) (ad : Nat → Nat) (cI cQ : ClassId) (X : pm_X) (y : Nat) (R : Room) (cells slots : Nat) : Prop :=
  p.tables.exec = Jvm.exec ∧ c.code = pm_by y ∧ c.maxLocals = pm_ml y ∧ s.vm.findClass (pm_nm y).cls = some m.cls ∧ (∀ w ∈ pm_gw, w.before args s = true) ∧ (∀ w ∈ pm_nw, va_Nw w s) ∧ va_K (dC, dI) pm_cls [(cI, .int), (cQ, .array .int)] s ∧
  (X.1 = 0 ∨ (va_X (ad 99) (X.1 - 1) X.2 s H0 ∧ ad 99 < H0.size ∧ ¬ A (ad 99))) ∧ (pm_rk y ≤ R.frames ∧ 40 * pm_rk y ≤ R.locals ∧ cells ≤ R.cells ∧ slots ≤ R.slots)
/-- from this configuration the machine comes to Q -/
def pm_G (p : Program) (l : Launch) (e : Env) (R : Room) (s : State) (m : MethodId) (args : Array Value) (below : List Frame) (meth : Method) (c : Code) (cells slots : Nat) (Q : State → Prop) (H0 : Heap) (A : Nat → Prop) (dC : Nat → ClassId) (dI : Nat → Nat → Nat) (ad : Nat → Nat) (cI cQ : ClassId) (n : Nat) (cf : pm_C) : Prop :=
  ∀ (H : Heap) (locs : List Loc) (ls : Array Slot), va_P (dC, dI) pm_cls (pm_w ad cI cQ cf.2.2.2) H → va_D A (pm_w ad cI cQ cf.2.2.2) → va_S A H0 H locs → lv_has ls n (pm_loc ad 0 cf.2.1) → W p l e R s m args below meth c H locs cells slots Q (F0 m cf.1 ls (cf.2.2.1.map (pm_to ad)))
theorem pm_in_vp {i : Int32} {n : Nat} (h : pm_in i n = true) : vp_in i n := by
  unfold pm_in at h
  simp only [Bool.and_eq_true, decide_eq_true_eq] at h
  exact vp_in_iff.mpr h
theorem pm_jt_eq {pc : Nat} {o : Int} (h : pm_off pc o = true) : (pc : Int) + o = ((pm_jt pc o : Nat) : Int) := by
  unfold pm_off at h
  simp only [decide_eq_true_eq] at h
  unfold pm_jt
  omega
theorem pm_lk_off {pc : Nat} {d x : Int} : ∀ (l : List (Int × Int)), pm_off pc d = true → l.all (fun q => pm_off pc q.2) = true → pm_off pc (Op.lookupswitch.offset l d x) = true
  | [], h, _ => h
  | q :: t, h, h2 => by
    simp only [List.all_cons, Bool.and_eq_true] at h2
    obtain ⟨a, o⟩ := q
    rw [Op.lookupswitch.offset_cons]
    split
    · exact h2.1
    · exact pm_lk_off t h h2.2
section PMS
variable {p : Program} {l : Launch} {e : Env} {R : Room} {s : State} {m : MethodId} {args : Array Value} {below : List Frame} {meth : Method} {c : Code} {H0 : Heap} {cells slots : Nat} {Q : State → Prop} {dC : Nat → ClassId} {dI : Nat → Nat → Nat} {A : Nat → Prop} {ad : Nat → Nat} {cI cQ : ClassId} {X : pm_X} {y : Nat}
variable {pc len : Nat} {ax : List Nat} {ls2 : pm_L} {st : List pm_V} {M : pm_M} {cf2 : pm_C}
theorem pm_ldi_ok (hE : pm_E p s m args c H0 A dC dI ad cI cQ X y R cells slots) {pc2 k : Nat} (hh : pm_ldi pc2 ls2 k st M = .inl cf2) (hr : ∀ (H : Heap) (locs : List Loc) (ls : Array Slot) (x : Int32), ls[k]? = some (.val (.int x)) → W p l e R s m args below meth c H locs cells slots Q (F0 m pc2 ls (.int x :: st.map (pm_to ad))) → W p l e R s m args below meth c H locs cells slots Q (F0 m pc ls (st.map (pm_to ad))))
    (kk : pm_G p l e R s m args below meth c cells slots Q H0 A dC dI ad cI cQ (pm_ml y) cf2) : pm_G p l e R s m args below meth c cells slots Q H0 A dC dI ad cI cQ (pm_ml y) (pc, ls2, st, M) := by
  intro H locs ls hP hD hS hl
  unfold pm_ldi at hh
  split at hh
  · rename_i x hg
    cases hh
    exact hr H locs ls x (hl.2.2 _ (pm_loc_get (ad := ad) hg)) (kk H locs ls hP hD hS hl)
  · cases hh
theorem pm_lda_ok (hE : pm_E p s m args c H0 A dC dI ad cI cQ X y R cells slots) {pc2 k : Nat} (hh : pm_lda pc2 ls2 k st M = .inl cf2) (hr : ∀ (H : Heap) (locs : List Loc) (ls : Array Slot) (x : Nat), ls[k]? = some (.val (.ref x)) → W p l e R s m args below meth c H locs cells slots Q (F0 m pc2 ls (.ref x :: st.map (pm_to ad))) → W p l e R s m args below meth c H locs cells slots Q (F0 m pc ls (st.map (pm_to ad))))
    (kk : pm_G p l e R s m args below meth c cells slots Q H0 A dC dI ad cI cQ (pm_ml y) cf2) : pm_G p l e R s m args below meth c cells slots Q H0 A dC dI ad cI cQ (pm_ml y) (pc, ls2, st, M) := by
  intro H locs ls hP hD hS hl
  unfold pm_lda at hh
  split at hh
  · rename_i x hg
    cases hh
    exact hr H locs ls (ad x) (hl.2.2 _ (pm_loc_get (ad := ad) hg)) (kk H locs ls hP hD hS hl)
  · cases hh
theorem pm_ldl_ok (hE : pm_E p s m args c H0 A dC dI ad cI cQ X y R cells slots) {pc2 k : Nat} (hh : pm_ldl pc2 ls2 k st M = .inl cf2) (hr : ∀ (H : Heap) (locs : List Loc) (ls : Array Slot) (x : Int64), ls[k]? = some (.val (.long x)) → W p l e R s m args below meth c H locs cells slots Q (F0 m pc2 ls (.long x :: st.map (pm_to ad))) → W p l e R s m args below meth c H locs cells slots Q (F0 m pc ls (st.map (pm_to ad))))
    (kk : pm_G p l e R s m args below meth c cells slots Q H0 A dC dI ad cI cQ (pm_ml y) cf2) : pm_G p l e R s m args below meth c cells slots Q H0 A dC dI ad cI cQ (pm_ml y) (pc, ls2, st, M) := by
  intro H locs ls hP hD hS hl
  unfold pm_ldl at hh
  split at hh
  · rename_i x hg
    cases hh
    exact hr H locs ls x (hl.2.2 _ (pm_loc_get (ad := ad) hg)) (kk H locs ls hP hD hS hl)
  · cases hh
theorem pm_bin_ok {pc2 : Nat} {f : Int32 → Int32 → Int32} (hh : pm_bin pc2 ls2 st M f = .inl cf2) (hr : ∀ (H : Heap) (locs : List Loc) (ls : Array Slot) (a b : Int32) (rest : List Value), W p l e R s m args below meth c H locs cells slots Q (F0 m pc2 ls (.int (f a b) :: rest)) → W p l e R s m args below meth c H locs cells slots Q (F0 m pc ls (.int b :: .int a :: rest)))
    (kk : pm_G p l e R s m args below meth c cells slots Q H0 A dC dI ad cI cQ (pm_ml y) cf2) : pm_G p l e R s m args below meth c cells slots Q H0 A dC dI ad cI cQ (pm_ml y) (pc, ls2, st, M) := by
  intro H locs ls hP hD hS hl
  unfold pm_bin at hh
  split at hh
  · cases hh
    exact hr H locs ls _ _ _ (kk H locs ls hP hD hS hl)
  · cases hh
theorem pm_un_ok {pc2 : Nat} {f : Int32 → pm_V} (hh : pm_un pc2 ls2 st M f = .inl cf2) (hr : ∀ (H : Heap) (locs : List Loc) (ls : Array Slot) (a : Int32) (rest : List Value), W p l e R s m args below meth c H locs cells slots Q (F0 m pc2 ls (pm_to ad (f a) :: rest)) → W p l e R s m args below meth c H locs cells slots Q (F0 m pc ls (.int a :: rest)))
    (kk : pm_G p l e R s m args below meth c cells slots Q H0 A dC dI ad cI cQ (pm_ml y) cf2) : pm_G p l e R s m args below meth c cells slots Q H0 A dC dI ad cI cQ (pm_ml y) (pc, ls2, st, M) := by
  intro H locs ls hP hD hS hl
  unfold pm_un at hh
  split at hh
  · cases hh
    exact hr H locs ls _ _ (kk H locs ls hP hD hS hl)
  · cases hh
theorem pm_ifc_ok {t : Nat} {f : Int32 → Bool} (hh : pm_ifc pc t ls2 st M f = .inl cf2) (hr : ∀ (H : Heap) (locs : List Loc) (ls : Array Slot) (a : Int32) (rest : List Value), (f a = true → W p l e R s m args below meth c H locs cells slots Q (F0 m t ls rest)) → (f a = false → W p l e R s m args below meth c H locs cells slots Q (F0 m (pc + 3) ls rest)) → W p l e R s m args below meth c H locs cells slots Q (F0 m pc ls (.int a :: rest)))
    (kk : pm_G p l e R s m args below meth c cells slots Q H0 A dC dI ad cI cQ (pm_ml y) cf2) : pm_G p l e R s m args below meth c cells slots Q H0 A dC dI ad cI cQ (pm_ml y) (pc, ls2, st, M) := by
  intro H locs ls hP hD hS hl
  unfold pm_ifc at hh
  split at hh
  · split at hh
    · rename_i hf
      cases hh
      exact hr H locs ls _ _ (fun _ => kk H locs ls hP hD hS hl) (fun q => by rw [hf] at q; cases q)
    · rename_i hf
      cases hh
      exact hr H locs ls _ _ (fun q => absurd q hf) (fun _ => kk H locs ls hP hD hS hl)
  · cases hh
theorem pm_icm_ok {t : Nat} {f : Int32 → Int32 → Bool} (hh : pm_icm pc t ls2 st M f = .inl cf2) (hr : ∀ (H : Heap) (locs : List Loc) (ls : Array Slot) (a b : Int32) (rest : List Value), (f a b = true → W p l e R s m args below meth c H locs cells slots Q (F0 m t ls rest)) → (f a b = false → W p l e R s m args below meth c H locs cells slots Q (F0 m (pc + 3) ls rest)) → W p l e R s m args below meth c H locs cells slots Q (F0 m pc ls (.int b :: .int a :: rest)))
    (kk : pm_G p l e R s m args below meth c cells slots Q H0 A dC dI ad cI cQ (pm_ml y) cf2) : pm_G p l e R s m args below meth c cells slots Q H0 A dC dI ad cI cQ (pm_ml y) (pc, ls2, st, M) := by
  intro H locs ls hP hD hS hl
  unfold pm_icm at hh
  split at hh
  · split at hh
    · rename_i hf
      cases hh
      exact hr H locs ls _ _ _ (fun _ => kk H locs ls hP hD hS hl) (fun q => by rw [hf] at q; cases q)
    · rename_i hf
      cases hh
      exact hr H locs ls _ _ _ (fun q => absurd q hf) (fun _ => kk H locs ls hP hD hS hl)
  · cases hh
theorem pm_gw_at (hg : ∀ w ∈ pm_gw, w.before args s = true) {i : Nat} {w : Cond} (h : lw_tbl[i]? = some w) (g : goodWord w = true) : w.before args s = true := hg w (pm_gw_of (List.mem_of_getElem? h) g)
theorem pm_get_ok (hC : pm_okc) (hE : pm_E p s m args c H0 A dC dI ad cI cQ X y R cells slots) {ix ci j nest wi k : Nat} {v : pm_V} {r : List pm_V} (hdg : decode (pm_by y) pc = .ok (.getfield ix, 3)) (hf : pm_fld (pm_nm y).cls ix ci j nest wi = true) (hv : pm_gf ci j k M = some v)
    (kk : pm_G p l e R s m args below meth c cells slots Q H0 A dC dI ad cI cQ (pm_ml y) (pc + 3, ls2, v :: r, M)) : pm_G p l e R s m args below meth c cells slots Q H0 A dC dI ad cI cQ (pm_ml y) (pc, ls2, .inr (.inl k) :: r, M) := by
  intro H locs ls hP hD hS hl
  obtain ⟨hx, hb, -, hown, hg, hn, hK, -, -⟩ := hE
  unfold pm_gf at hv
  split at hv
  · rename_i cc fl hsh
    split at hv
    · rename_i hcc
      subst hcc
      unfold pm_fld at hf
      split at hf
      · rename_i C T N hcl
        obtain ⟨hin, -, -⟩ := hC _ _ _ _ hcl
        simp only [Bool.and_eq_true, decide_eq_true_eq] at hf
        obtain ⟨⟨hj, hTC⟩, hf⟩ := hf
        have he := pm_w_get (ad := ad) (cI := cI) (cQ := cQ) (M := M) hsh
        have hgv : (pm_fs ad (M k) 0 fl)[j]? = some (pm_to ad v) := by
          rw [pm_fs_get]
          split at hv
          · rename_i q hq
            cases hv
            rw [hq]; rfl
          · rename_i hq
            cases hv
            rw [hq]
            simp [pm_to]
          · cases hv
        split at hf
        · simp only [decide_eq_true_eq] at hf
          have hlink := pm_gw_at hg hf rfl
          exact va_get hx hb hg hin hown hK hP k he hcl j hj hlink (fun _ h => by rw [← hTC]; exact h) hgv hdg (kk H locs ls hP hD hS hl)
        · simp only [decide_eq_true_eq] at hf
          have hlink : (Cond.fieldLinkNest (pm_nm y).cls ix C (T j).2.1 (T j).2.2.1 "WeatherPass").before args s = true := va_Nw.use rfl (hn _ (pm_nw_of (List.mem_of_getElem? hf) rfl))
          exact va_getN hx hb hg hin hown hK hP k he hcl j hj hlink (fun _ h => by rw [← hTC]; exact h) hgv hdg (kk H locs ls hP hD hS hl)
      · cases hf
    · cases hv
  · cases hv
theorem pm_put_ok (hC : pm_okc) (hE : pm_E p s m args c H0 A dC dI ad cI cQ X y R cells slots) {ix ci j nest wi k : Nat} {v : Int32} {M2 : pm_M} {r : List pm_V} (hdg : decode (pm_by y) pc = .ok (.putfield ix, 3)) (hf : pm_fld (pm_nm y).cls ix ci j nest wi = true) (hfi : pm_fli ci j = true) (hv : pm_pf ci j k v M = some M2)
    (kk : pm_G p l e R s m args below meth c cells slots Q H0 A dC dI ad cI cQ (pm_ml y) (pc + 3, ls2, r, M2)) : pm_G p l e R s m args below meth c cells slots Q H0 A dC dI ad cI cQ (pm_ml y) (pc, ls2, .inl v :: .inr (.inl k) :: r, M) := by
  intro H locs ls hP hD hS hl
  obtain ⟨hx, hb, -, hown, hg, hn, hK, -, -⟩ := hE
  unfold pm_pf at hv
  split at hv
  · rename_i cc fl hsh
    split at hv
    · rename_i hcc
      subst hcc
      split at hv
      · rename_i hq
        cases hv
        unfold pm_fld at hf
        unfold pm_fli at hfi
        split at hf
        · rename_i C T N hcl
          rw [hcl] at hfi
          obtain ⟨hin, ⟨ty0, hty⟩, hnm⟩ := hC _ _ _ _ hcl
          simp only [Bool.and_eq_true, decide_eq_true_eq] at hf
          simp only [Bool.and_eq_true, decide_eq_true_eq, Bool.not_eq_true'] at hfi
          obtain ⟨⟨hj, hTC⟩, hf⟩ := hf
          have he := pm_w_get (ad := ad) (cI := cI) (cQ := cQ) (M := M) hsh
          have hset : (pm_fs ad (M k) 0 fl).set j (.int v) = pm_fs ad (pm_up M k j v k) 0 fl := by
            rw [pm_fs_set hq]
            congr 1
            funext b
            simp [pm_up]
          have hws : (pm_w ad cI cQ M).set k (ad k, .inr (cc, (pm_fs ad (M k) 0 fl).set j (.int v))) = pm_w ad cI cQ (pm_up M k j v) := by
            rw [hset]
            exact pm_w_set (sh := .inr (.inr (cc, fl))) hsh (fun a ha => by funext b; simp [pm_up, ha])
          have hlen : j < (pm_fs ad (M k) 0 fl).length := by
            have h1 := pm_fs_get (ad := ad) (f := M k) fl 0 j
            rw [hq] at h1
            exact (List.getElem?_eq_some_iff.mp h1).1
          split at hf
          · simp only [decide_eq_true_eq] at hf
            have hlink := pm_gw_at hg hf rfl
            exact va_put hx hb hg hin ty0 hty hnm hown hK hP hD hS k he hcl j hj hlink (fun _ h => by rw [← hTC]; exact h) hfi.1 hfi.2 rfl rfl hlen hdg (fun H1 l1 q1 q2 q3 => kk H1 l1 ls (by rw [← hws]; exact q1) (by rw [← hws]; exact q2) q3 hl)
          · simp only [decide_eq_true_eq] at hf
            have hlink : (Cond.fieldLinkNest (pm_nm y).cls ix C (T j).2.1 (T j).2.2.1 "WeatherPass").before args s = true := va_Nw.use rfl (hn _ (pm_nw_of (List.mem_of_getElem? hf) rfl))
            exact va_putN hx hb hg hin ty0 hty hnm hown hK hP hD hS k he hcl j hj hlink (fun _ h => by rw [← hTC]; exact h) hfi.1 hfi.2 rfl rfl hlen hdg (fun H1 l1 q1 q2 q3 => kk H1 l1 ls (by rw [← hws]; exact q1) (by rw [← hws]; exact q2) q3 hl)
        · cases hf
      · cases hv
    · cases hv
  · cases hv
theorem pm_ald_ok (hE : pm_E p s m args c H0 A dC dI ad cI cQ X y R cells slots) {k : Nat} {x v : Int32} {r : List pm_V} (hdg : decode (pm_by y) pc = .ok (.iaload, 1)) (hv : pm_ald X k x M = some v)
    (kk : pm_G p l e R s m args below meth c cells slots Q H0 A dC dI ad cI cQ (pm_ml y) (pc + 1, ls2, .inl v :: r, M)) : pm_G p l e R s m args below meth c cells slots Q H0 A dC dI ad cI cQ (pm_ml y) (pc, ls2, .inl x :: .inr (.inl k) :: r, M) := by
  intro H locs ls hP hD hS hl
  obtain ⟨hx, hb, -, hown, hg, hn, hK, hX, -⟩ := hE
  unfold pm_ald at hv
  split at hv
  · rename_i hk
    subst hk
    split at hv
    · rename_i hi
      cases hv
      rcases hX with hX | ⟨hX, h1, h2⟩
      · rw [hX] at hi
        unfold pm_in at hi
        simp at hi
        omega
      · exact va_sld hx hb hX h1 h2 hS (pm_in_vp hi) hdg (kk H locs ls hP hD hS hl)
    · cases hv
  · split at hv
    · rename_i n hsh
      split at hv
      · rename_i hi
        cases hv
        exact va_iald hx hb hK hP k 0 (pm_w_get (ad := ad) (cI := cI) (cQ := cQ) (M := M) hsh) rfl (pm_in_vp hi) hdg (kk H locs ls hP hD hS hl)
      · cases hv
    · cases hv
theorem pm_aln_ok (hE : pm_E p s m args c H0 A dC dI ad cI cQ X y R cells slots) {k : Nat} {v : Int32} {r : List pm_V} (hdg : decode (pm_by y) pc = .ok (.arraylength, 1)) (hv : pm_aln X k = some v)
    (kk : pm_G p l e R s m args below meth c cells slots Q H0 A dC dI ad cI cQ (pm_ml y) (pc + 1, ls2, .inl v :: r, M)) : pm_G p l e R s m args below meth c cells slots Q H0 A dC dI ad cI cQ (pm_ml y) (pc, ls2, .inr (.inl k) :: r, M) := by
  intro H locs ls hP hD hS hl
  obtain ⟨hx, hb, -, hown, hg, hn, hK, hX, -⟩ := hE
  unfold pm_aln at hv
  split at hv
  · rename_i hk
    subst hk
    split at hv
    · cases hv
    · rename_i h0
      cases hv
      rcases hX with hX | ⟨hX, h1, h2⟩
      · exact absurd hX h0
      · exact va_slen hx hb hX h1 h2 hS hdg (kk H locs ls hP hD hS hl)
  · split at hv
    · rename_i n hsh
      cases hv
      exact va_alen hx hb hK hP k 0 (pm_w_get (ad := ad) (cI := cI) (cQ := cQ) (M := M) hsh) rfl rfl hdg (kk H locs ls hP hD hS hl)
    · cases hv
theorem pm_ast_ok (hE : pm_E p s m args c H0 A dC dI ad cI cQ X y R cells slots) {k : Nat} {x v : Int32} {M2 : pm_M} {r : List pm_V} (hdg : decode (pm_by y) pc = .ok (.iastore, 1)) (hv : pm_ast k x v M = some M2)
    (kk : pm_G p l e R s m args below meth c cells slots Q H0 A dC dI ad cI cQ (pm_ml y) (pc + 1, ls2, r, M2)) : pm_G p l e R s m args below meth c cells slots Q H0 A dC dI ad cI cQ (pm_ml y) (pc, ls2, .inl v :: .inl x :: .inr (.inl k) :: r, M) := by
  intro H locs ls hP hD hS hl
  obtain ⟨hx, hb, -, hown, hg, hn, hK, hX, -⟩ := hE
  unfold pm_ast at hv
  split at hv
  · rename_i n hsh
    split at hv
    · rename_i hi
      cases hv
      have hws : (pm_w ad cI cQ M).set k (ad k, .inl (cI, n, .inl (upd (M k) x.toNatClampNeg v))) = pm_w ad cI cQ (pm_up M k x.toNatClampNeg v) := by
        have h1 : upd (M k) x.toNatClampNeg v = pm_up M k x.toNatClampNeg v k := by
          funext b
          simp [upd, pm_up]
        rw [h1]
        exact pm_w_set (sh := .inl n) hsh (fun a ha => by funext b; simp [pm_up, ha])
      exact va_iast hx hb hK hP hD hS k 0 (pm_w_get (ad := ad) (cI := cI) (cQ := cQ) (M := M) hsh) rfl (pm_in_vp hi) hdg (fun H1 l1 q1 q2 q3 => kk H1 l1 ls (by rw [← hws]; exact q1) (by rw [← hws]; exact q2) q3 hl)
    · cases hv
  · cases hv
theorem pm_aald_ok (hE : pm_E p s m args c H0 A dC dI ad cI cQ X y R cells slots) {k q : Nat} {x : Int32} {r : List pm_V} (hdg : decode (pm_by y) pc = .ok (.aaload, 1)) (hv : pm_aald k x = some q)
    (kk : pm_G p l e R s m args below meth c cells slots Q H0 A dC dI ad cI cQ (pm_ml y) (pc + 1, ls2, .inr (.inl q) :: r, M)) : pm_G p l e R s m args below meth c cells slots Q H0 A dC dI ad cI cQ (pm_ml y) (pc, ls2, .inl x :: .inr (.inl k) :: r, M) := by
  intro H locs ls hP hD hS hl
  obtain ⟨hx, hb, -, hown, hg, hn, hK, hX, -⟩ := hE
  unfold pm_aald at hv
  split at hv
  · rename_i ks hsh
    split at hv
    · rename_i hi
      have hin := pm_in_vp hi
      have hlt : x.toNatClampNeg < ks.length := Nat.not_le.mp fun q => hin (Or.inr q)
      have he := pm_w_get (ad := ad) (cI := cI) (cQ := cQ) (M := M) hsh
      have hK1 := (hK.2 1 (cQ, .array .int) rfl).1
      refine W.aald (v := .ref (ad q)) (ty := .array .int) hx hb (hP k _ he) (hK1 ks.length (fun j => va_rf ((ks[j]?).map ad))) rfl (fun q => by cases q) (by show ¬ (x < 0 ∨ (arrV _ _ _).slots.size ≤ _); rw [arrV_size]; exact hin) (by show (arrV _ _ _).slots[_]? = _; rw [arrV_read _ _ hlt]; show some (va_rf ((ks[x.toNatClampNeg]?).map ad)) = _; rw [hv]; rfl) rfl rfl hdg (kk H locs ls hP hD hS hl)
    · cases hv
  · cases hv
theorem pm_acp_ok (hE : pm_E p s m args c H0 A dC dI ad cI cQ X y R cells slots) {ix wi k0 k1 : Nat} {sp dp n : Int32} {M2 : pm_M} {r : List pm_V} (hdg : decode (pm_by y) pc = .ok (.invokestatic ix, 3)) (hw : lw_tbl[wi]? = some (.methodLink (pm_nm y).cls ix arraycopyName)) (hrk : 1 ≤ pm_rk y) (hr4 : r.length ≤ 2)
    (h1 : (Cond.native arraycopyName) ∈ pm_gw) (h2 : (Cond.static arraycopyName) ∈ pm_gw) (h3 : (Cond.initialized "java/lang/System") ∈ pm_gw) (hv : pm_acp k0 sp k1 dp n M = some M2)
    (kk : pm_G p l e R s m args below meth c cells slots Q H0 A dC dI ad cI cQ (pm_ml y) (pc + 3, ls2, r, M2)) : pm_G p l e R s m args below meth c cells slots Q H0 A dC dI ad cI cQ (pm_ml y) (pc, ls2, .inl n :: .inl dp :: .inr (.inl k1) :: .inl sp :: .inr (.inl k0) :: r, M) := by
  intro H locs ls hP hD hS hl
  obtain ⟨hx, hb, hml, hown, hg, hn, hK, hX, hR1, hR2, hR3⟩ := hE
  unfold pm_acp at hv
  split at hv
  · rename_i n0 n1 s0 s1
    split at hv
    · rename_i hc
      obtain ⟨c1, c2, c3, c4, c5⟩ := hc
      cases hv
      have hws : (pm_w ad cI cQ M).set k1 (ad k1, .inl (cI, n1, .inl (va_cpy (M k0) (M k1) sp.toNatClampNeg dp.toNatClampNeg n.toNatClampNeg))) = pm_w ad cI cQ (pm_cp M k0 sp.toNatClampNeg k1 dp.toNatClampNeg n.toNatClampNeg) := by
        have h1 : va_cpy (M k0) (M k1) sp.toNatClampNeg dp.toNatClampNeg n.toNatClampNeg = pm_cp M k0 sp.toNatClampNeg k1 dp.toNatClampNeg n.toNatClampNeg k1 := by
          simp [pm_cp]
        rw [h1]
        exact pm_w_set (sh := .inl n1) s1 (fun a ha => by simp [pm_cp, ha])
      have hcat : ∀ (t : List pm_V), ((t.map (pm_to ad)).map fun v => v.category).sum ≤ 2 * t.length := by
        intro t
        induction t with
        | nil => simp
        | cons a t ih =>
          have : (pm_to ad a).category ≤ 2 := by
            rcases lv_cat (pm_to ad a) with h | h <;> omega
          simp only [List.map_cons, List.sum_cons, List.length_cons]
          omega
      have hc2 := hcat r
      have h9 : nativeFrameWords "java/lang/System" "arraycopy" 5 ≤ 20 := by decide
      have hl2 : ((r.map (pm_to ad)).map fun v => v.category).sum + (nativeFrameWords "java/lang/System" "arraycopy" 5 + 11) ≤ R.locals := by omega
      exact va_copyi hx hb (hml.trans hl.1.symm) hown (pm_gw_at hg hw rfl) (hg _ h1) (hg _ h2) (hg _ h3) hK hP hD hS k0 k1 0 0 (pm_w_get (ad := ad) (cI := cI) (cQ := cQ) (M := M) s0) (pm_w_get (ad := ad) (cI := cI) (cQ := cQ) (M := M) s1) rfl rfl rfl c1 c2 c3 c4 c5 (fun i hi => rfl) (by omega) hl2 hdg (fun H1 l1 q1 q2 q3 => kk H1 l1 ls (by rw [← hws]; exact q1) (by rw [← hws]; exact q2) q3 hl)
    · cases hv
  · cases hv
theorem pm_mm_ok (hE : pm_E p s m args c H0 A dC dI ad cI cQ X y R cells slots) {ix wi w : Nat} {a b : Int32} {r : List pm_V} (hdg : decode (pm_by y) pc = .ok (.invokestatic ix, 3)) (hw : (if w = 0 then decide (lw_tbl[wi]? = some (.methodLink (pm_nm y).cls ix Lib.Math.max.name)) else decide (lw_tbl[wi]? = some (.methodLink (pm_nm y).cls ix Lib.Math.min.name))) = true) (hrk : 1 ≤ pm_rk y) (hr4 : r.length ≤ 4)
    (hma : (Cond.static Lib.Math.max.name) ∈ pm_gw ∧ (Cond.initialized "java/lang/Math") ∈ pm_gw ∧ (Cond.code Lib.Math.max.name Lib.Math.max.code 2 (some .int)) ∈ pm_gw ∧ (Cond.static Lib.Math.min.name) ∈ pm_gw ∧ (Cond.code Lib.Math.min.name Lib.Math.min.code 2 (some .int)) ∈ pm_gw)
    (kk : pm_G p l e R s m args below meth c cells slots Q H0 A dC dI ad cI cQ (pm_ml y) (pc + 3, ls2, .inl (if w = 0 then (if a < b then b else a) else (if b < a then b else a)) :: r, M)) : pm_G p l e R s m args below meth c cells slots Q H0 A dC dI ad cI cQ (pm_ml y) (pc, ls2, .inl b :: .inl a :: r, M) := by
  intro H locs ls hP hD hS hl
  obtain ⟨hx, hb, hml, hown, hg, hn, hK, hX, hR1, hR2, hR3, hR4⟩ := hE
  obtain ⟨m1, m2, m3, m4, m5⟩ := hma
  have hcat : ∀ (t : List pm_V), ((t.map (pm_to ad)).map fun v => v.category).sum ≤ 2 * t.length := by
    intro t
    induction t with
    | nil => simp
    | cons a t ih =>
      have : (pm_to ad a).category ≤ 2 := by
        rcases lv_cat (pm_to ad a) with h | h <;> omega
      simp only [List.map_cons, List.sum_cons, List.length_cons]
      omega
  have hc2 := hcat r
  have hk := kk H locs ls hP hD hS hl
  split at hw
  · rename_i h0
    simp only [decide_eq_true_eq] at hw
    rw [if_pos h0] at hk
    exact va_mmax hx hb (hml.trans hl.1.symm) hown (pm_gw_at hg hw rfl) (hg _ m1) (hg _ m2) (hg _ m3) (by omega) (by omega) hR3 hR4 hdg hk
  · rename_i h0
    simp only [decide_eq_true_eq] at hw
    rw [if_neg h0] at hk
    exact va_mmin hx hb (hml.trans hl.1.symm) hown (pm_gw_at hg hw rfl) (hg _ m4) (hg _ m2) (hg _ m5) (by omega) (by omega) hR3 hR4 hdg hk
end PMS
end
section
/-! One step, by instruction. -/
section PMT
variable {p : Program} {l : Launch} {e : Env} {R : Room} {s : State} {m : MethodId} {args : Array Value} {below : List Frame} {meth : Method} {c : Code} {H0 : Heap} {cells slots : Nat} {Q : State → Prop} {dC : Nat → ClassId} {dI : Nat → Nat → Nat} {A : Nat → Prop} {ad : Nat → Nat} {cI cQ : ClassId} {X : pm_X} {y : Nat}
set_option maxHeartbeats 4000000 in
theorem pm_stp_ok (hC : pm_okc) (ha1 : (Cond.native arraycopyName) ∈ pm_gw) (ha2 : (Cond.static arraycopyName) ∈ pm_gw) (ha3 : (Cond.initialized "java/lang/System") ∈ pm_gw) (hma : (Cond.static Lib.Math.max.name) ∈ pm_gw ∧ (Cond.initialized "java/lang/Math") ∈ pm_gw ∧ (Cond.code Lib.Math.max.name Lib.Math.max.code 2 (some .int)) ∈ pm_gw ∧ (Cond.static Lib.Math.min.name) ∈ pm_gw ∧ (Cond.code Lib.Math.min.name Lib.Math.min.code 2 (some .int)) ∈ pm_gw) (hE : pm_E p s m args c H0 A dC dI ad cI cQ X y R cells slots) {pc len : Nat} {i : Instr} {ax : List Nat} {ls2 : pm_L} {st : List pm_V} {M : pm_M} {cf2 : pm_C}
    (hdec : decode (pm_by y) pc = .ok (i, len)) (hlen : ∀ n, pm_ln i = some n → len = n) (hok : pm_okx y pc i ax = true) (hh : pm_stp X (pm_rb y) pc i ax ls2 st M = .inl cf2)
    (kk : pm_G p l e R s m args below meth c cells slots Q H0 A dC dI ad cI cQ (pm_ml y) cf2) : pm_G p l e R s m args below meth c cells slots Q H0 A dC dI ad cI cQ (pm_ml y) (pc, ls2, st, M) := by
  obtain ⟨hx, hb, hml, hown, hg, hn, hK, hX, hRm⟩ := id hE
  unfold pm_stp at hh
  split at hh
  · have q := hlen 1 rfl
    subst q
    exact pm_ldi_ok hE hh (fun H locs ls x h1 h2 => lv_iload_n hx hb hdec rfl h1 h2) kk
  · have q := hlen 2 rfl
    subst q
    exact pm_ldi_ok hE hh (fun H locs ls x h1 h2 => lv_iload hx hb hdec h1 h2) kk
  · have q := hlen 1 rfl
    subst q
    exact pm_lda_ok hE hh (fun H locs ls x h1 h2 => lv_aload_n hx hb hdec rfl h1 h2) kk
  · have q := hlen 2 rfl
    subst q
    exact pm_lda_ok hE hh (fun H locs ls x h1 h2 => lv_aload hx hb hdec h1 h2) kk
  · have q := hlen 1 rfl
    subst q
    exact pm_ldl_ok hE hh (fun H locs ls x h1 h2 => lv_lload_n hx hb hdec rfl h1 h2) kk
  · have q := hlen 2 rfl
    subst q
    exact pm_ldl_ok hE hh (fun H locs ls x h1 h2 => lv_lload hx hb hdec h1 h2) kk
  · have q := hlen 1 rfl
    subst q
    unfold pm_sti at hh
    split at hh
    · cases hh
      intro H locs ls hP hD hS hl
      exact lv_istore_n hx hb hdec rfl hl (by simpa [pm_okx] using hok) rfl (fun ls' hl' => kk H locs ls' hP hD hS (pm_lv_set hl'))
    · cases hh
  · have q := hlen 2 rfl
    subst q
    unfold pm_sti at hh
    split at hh
    · cases hh
      intro H locs ls hP hD hS hl
      exact lv_istore hx hb hdec hl (by simpa [pm_okx] using hok) rfl (fun ls' hl' => kk H locs ls' hP hD hS (pm_lv_set hl'))
    · cases hh
  · have q := hlen 2 rfl
    subst q
    unfold pm_stl at hh
    split at hh
    · cases hh
      intro H locs ls hP hD hS hl
      exact lv_lstore hx hb hdec hl (by simpa [pm_okx] using hok) rfl (fun ls' hl' => kk H locs ls' hP hD hS (pm_lv_setL hl'))
    · cases hh
  · have q := hlen 3 rfl
    subst q
    split at hh
    · rename_i x hgx
      cases hh
      intro H locs ls hP hD hS hl
      obtain ⟨j, hj⟩ := List.getElem?_of_mem (pm_loc_get (ad := ad) hgx)
      exact lv_iinc hx hb hdec hl hj rfl (by simpa [pm_okx] using hok) rfl (fun ls' hl' => kk H locs ls' hP hD hS (pm_lv_set (v := .inl _) hl'))
    · cases hh
  · have q := hlen 1 rfl
    subst q
    cases hh
    intro H locs ls hP hD hS hl
    exact lv_iconst hx hb hdec rfl (kk H locs ls hP hD hS hl)
  · have q := hlen 2 rfl
    subst q
    cases hh
    intro H locs ls hP hD hS hl
    exact lv_bipush hx hb hdec rfl (kk H locs ls hP hD hS hl)
  · have q := hlen 3 rfl
    subst q
    cases hh
    intro H locs ls hP hD hS hl
    exact lv_sipush hx hb hdec rfl (kk H locs ls hP hD hS hl)
  · have q := hlen 1 rfl
    subst q
    cases hh
    intro H locs ls hP hD hS hl
    exact lv_lconst hx hb hdec rfl (kk H locs ls hP hD hS hl)
  · have q := hlen 3 rfl
    subst q
    split at hh
    · cases hh
      intro H locs ls hP hD hS hl
      simp only [pm_okx, decide_eq_true_eq] at hok
      exact lv_ldcw hx hb hown (pm_gw_at hg hok rfl) hdec (kk H locs ls hP hD hS hl)
    · cases hh
  · have q := hlen 3 rfl
    subst q
    split at hh
    · cases hh
      intro H locs ls hP hD hS hl
      simp only [pm_okx, decide_eq_true_eq] at hok
      exact lv_ldc2 hx hb hown (pm_gw_at hg hok rfl) hdec (kk H locs ls hP hD hS hl)
    · cases hh
  · have q := hlen 1 rfl
    subst q
    split at hh
    · cases hh
      intro H locs ls hP hD hS hl
      exact lv_dup hx hb hdec rfl (kk H locs ls hP hD hS hl)
    · cases hh
      intro H locs ls hP hD hS hl
      exact lv_dup hx hb hdec rfl (kk H locs ls hP hD hS hl)
    · cases hh
  · have q := hlen 1 rfl
    subst q
    split at hh
    · cases hh
      intro H locs ls hP hD hS hl
      exact lv_dup2_11 hx hb hdec rfl rfl (kk H locs ls hP hD hS hl)
    · cases hh
  · have q := hlen 1 rfl
    subst q
    exact pm_bin_ok hh (fun H locs ls a b r h => lv_iadd hx hb hdec h) kk
  · have q := hlen 1 rfl
    subst q
    exact pm_bin_ok hh (fun H locs ls a b r h => lv_isub hx hb hdec h) kk
  · have q := hlen 1 rfl
    subst q
    exact pm_bin_ok hh (fun H locs ls a b r h => lv_imul hx hb hdec h) kk
  · have q := hlen 1 rfl
    subst q
    exact pm_bin_ok hh (fun H locs ls a b r h => lv_iand hx hb hdec h) kk
  · have q := hlen 1 rfl
    subst q
    exact pm_bin_ok hh (fun H locs ls a b r h => lv_ior hx hb hdec h) kk
  · have q := hlen 1 rfl
    subst q
    exact pm_bin_ok hh (fun H locs ls a b r h => lv_ishl hx hb hdec h) kk
  · have q := hlen 1 rfl
    subst q
    exact pm_bin_ok hh (fun H locs ls a b r h => lv_ishr hx hb hdec h) kk
  · have q := hlen 1 rfl
    subst q
    exact pm_bin_ok hh (fun H locs ls a b r h => lv_iushr hx hb hdec rfl h) kk
  · have q := hlen 1 rfl
    subst q
    split at hh
    · split at hh
      · cases hh
      · rename_i h0
        cases hh
        intro H locs ls hP hD hS hl
        exact lv_irem hx hb hdec h0 (kk H locs ls hP hD hS hl)
    · cases hh
  · have q := hlen 1 rfl
    subst q
    exact pm_un_ok hh (fun H locs ls a r h => lv_i2l hx hb hdec rfl h) kk
  · have q := hlen 1 rfl
    subst q
    exact pm_un_ok hh (fun H locs ls a r h => lv_i2b hx hb hdec rfl h) kk
  · have q := hlen 1 rfl
    subst q
    exact pm_un_ok hh (fun H locs ls a r h => lv_i2s hx hb hdec rfl h) kk
  · have q := hlen 1 rfl
    subst q
    split at hh
    · cases hh
      intro H locs ls hP hD hS hl
      exact W.lcmp hx hb hdec (kk H locs ls hP hD hS hl)
    · cases hh
  · have q := hlen 1 rfl
    subst q
    split at hh
    · split at hh
      · cases hh
      · rename_i h0
        cases hh
        intro H locs ls hP hD hS hl
        exact lv_ldiv hx hb hdec h0 (kk H locs ls hP hD hS hl)
    · cases hh
  · have q := hlen 1 rfl
    subst q
    split at hh
    · split at hh
      · cases hh
      · rename_i h0
        cases hh
        intro H locs ls hP hD hS hl
        exact lv_lrem hx hb hdec h0 (kk H locs ls hP hD hS hl)
    · cases hh
  · have q := hlen 1 rfl
    subst q
    split at hh
    · cases hh
      intro H locs ls hP hD hS hl
      exact lv_lshl hx hb hdec rfl (kk H locs ls hP hD hS hl)
    · cases hh
  · have q := hlen 3 rfl
    subst q
    exact pm_ifc_ok hh (fun H locs ls a r k1 k2 => lv_if_eq hx hb hdec (pm_jt_eq (by simpa [pm_okx] using hok)) (fun h => k1 (by simpa using h)) (fun h => k2 (by simpa using h))) kk
  · have q := hlen 3 rfl
    subst q
    exact pm_ifc_ok hh (fun H locs ls a r k1 k2 => lv_if_ne hx hb hdec (pm_jt_eq (by simpa [pm_okx] using hok)) (fun h => k1 (by simpa using h)) (fun h => k2 (by simpa using h))) kk
  · have q := hlen 3 rfl
    subst q
    exact pm_ifc_ok hh (fun H locs ls a r k1 k2 => lv_if_lt hx hb hdec (pm_jt_eq (by simpa [pm_okx] using hok)) (fun h => k1 (decide_eq_true h)) (fun h => k2 (decide_eq_false h))) kk
  · have q := hlen 3 rfl
    subst q
    exact pm_ifc_ok hh (fun H locs ls a r k1 k2 => lv_if_ge hx hb hdec (pm_jt_eq (by simpa [pm_okx] using hok)) (fun h => k1 (decide_eq_true h)) (fun h => k2 (decide_eq_false h))) kk
  · have q := hlen 3 rfl
    subst q
    exact pm_ifc_ok hh (fun H locs ls a r k1 k2 => lv_if_gt hx hb hdec (pm_jt_eq (by simpa [pm_okx] using hok)) (fun h => k1 (decide_eq_true h)) (fun h => k2 (decide_eq_false h))) kk
  · have q := hlen 3 rfl
    subst q
    exact pm_ifc_ok hh (fun H locs ls a r k1 k2 => lv_if_le hx hb hdec (pm_jt_eq (by simpa [pm_okx] using hok)) (fun h => k1 (decide_eq_true h)) (fun h => k2 (decide_eq_false h))) kk
  · have q := hlen 3 rfl
    subst q
    exact pm_icm_ok hh (fun H locs ls a b r k1 k2 => lv_icmp_eq hx hb hdec (pm_jt_eq (by simpa [pm_okx] using hok)) (fun h => k1 (by simpa using h)) (fun h => k2 (by simpa using h))) kk
  · have q := hlen 3 rfl
    subst q
    exact pm_icm_ok hh (fun H locs ls a b r k1 k2 => lv_icmp_ne hx hb hdec (pm_jt_eq (by simpa [pm_okx] using hok)) (fun h => k1 (by simpa using h)) (fun h => k2 (by simpa using h))) kk
  · have q := hlen 3 rfl
    subst q
    exact pm_icm_ok hh (fun H locs ls a b r k1 k2 => lv_icmp_lt hx hb hdec (pm_jt_eq (by simpa [pm_okx] using hok)) (fun h => k1 (decide_eq_true h)) (fun h => k2 (decide_eq_false h))) kk
  · have q := hlen 3 rfl
    subst q
    exact pm_icm_ok hh (fun H locs ls a b r k1 k2 => lv_icmp_ge hx hb hdec (pm_jt_eq (by simpa [pm_okx] using hok)) (fun h => k1 (decide_eq_true h)) (fun h => k2 (decide_eq_false h))) kk
  · have q := hlen 3 rfl
    subst q
    exact pm_icm_ok hh (fun H locs ls a b r k1 k2 => lv_icmp_gt hx hb hdec (pm_jt_eq (by simpa [pm_okx] using hok)) (fun h => k1 (decide_eq_true h)) (fun h => k2 (decide_eq_false h))) kk
  · have q := hlen 3 rfl
    subst q
    exact pm_icm_ok hh (fun H locs ls a b r k1 k2 => lv_icmp_le hx hb hdec (pm_jt_eq (by simpa [pm_okx] using hok)) (fun h => k1 (decide_eq_true h)) (fun h => k2 (decide_eq_false h))) kk
  · have q := hlen 3 rfl
    subst q
    cases hh
    intro H locs ls hP hD hS hl
    exact lv_goto hx hb hdec (pm_jt_eq (by simpa [pm_okx] using hok)) (kk H locs ls hP hD hS hl)
  · simp only [pm_okx, Bool.and_eq_true] at hok
    split at hh
    · split at hh
      · rename_i h0
        cases hh
        intro H locs ls hP hD hS hl
        exact lv_tableOut hx hb hdec h0 (pm_jt_eq hok.1) (kk H locs ls hP hD hS hl)
      · rename_i h0
        split at hh
        · rename_i o ho
          cases hh
          intro H locs ls hP hD hS hl
          have ho2 := ho
          rw [← Array.getElem?_toList] at ho2
          have hmem := List.mem_of_getElem? ho2
          exact lv_tableIn hx hb hdec (fun q => h0 (Or.inl q)) (fun q => h0 (Or.inr q)) ho (pm_jt_eq (List.all_eq_true.mp hok.2 o hmem)) (kk H locs ls hP hD hS hl)
        · cases hh
    · cases hh
  · simp only [pm_okx, Bool.and_eq_true] at hok
    split at hh
    · cases hh
      intro H locs ls hP hD hS hl
      exact lv_lookup hx hb hdec hok.2 rfl (pm_jt_eq (pm_lk_off _ hok.1.1 hok.1.2)) (kk H locs ls hP hD hS hl)
    · cases hh
  · have q := hlen 3 rfl
    subst q
    split at hh
    · split at hh
      · rename_i hv
        cases hh
        exact pm_get_ok hC hE hdec (by simpa [pm_okx] using hok) hv kk
      · cases hh
    · cases hh
  · have q := hlen 3 rfl
    subst q
    split at hh
    · split at hh
      · rename_i hv
        cases hh
        simp only [pm_okx, Bool.and_eq_true] at hok
        exact pm_put_ok hC hE hdec hok.1 hok.2 hv kk
      · cases hh
    · cases hh
  · have q := hlen 1 rfl
    subst q
    split at hh
    · split at hh
      · rename_i hv
        cases hh
        exact pm_ald_ok hE hdec hv kk
      · cases hh
    · cases hh
  · have q := hlen 1 rfl
    subst q
    split at hh
    · split at hh
      · rename_i hv
        cases hh
        exact pm_ast_ok hE hdec hv kk
      · cases hh
    · cases hh
  · have q := hlen 1 rfl
    subst q
    split at hh
    · split at hh
      · rename_i hv
        cases hh
        exact pm_aald_ok hE hdec hv kk
      · cases hh
    · cases hh
  · have q := hlen 1 rfl
    subst q
    split at hh
    · split at hh
      · rename_i hv
        cases hh
        exact pm_aln_ok hE hdec hv kk
      · cases hh
    · cases hh
  · split at hh
    · split at hh
      · split at hh
        · cases hh
        · cases hh
      · cases hh
    · cases hh
  · have q := hlen 3 rfl
    subst q
    split at hh
    · split at hh
      · cases hh
      · cases hh
    · split at hh
      · split at hh
        · rename_i hr4
          split at hh
          · rename_i hv
            cases hh
            simp only [pm_okx, Bool.and_eq_true, decide_eq_true_eq] at hok
            exact pm_acp_ok hE hdec hok.1 hok.2 hr4 ha1 ha2 ha3 hv kk
          · cases hh
        · cases hh
      · cases hh
    · split at hh
      · split at hh
        · rename_i hr4
          cases hh
          have hok2 := hok
          unfold pm_okx at hok2
          rw [Bool.and_eq_true, decide_eq_true_eq] at hok2
          exact pm_mm_ok hE hdec hok2.1 hok2.2 hr4 hma kk
        · cases hh
      · cases hh
    · cases hh
  · split at hh
    · split at hh
      · cases hh
      · cases hh
    · cases hh
  · split at hh
    · cases hh
    · cases hh
  · split at hh
    · cases hh
    · cases hh
  · cases hh
end PMT
end
section
/-! Whole runs: methods by contract, one proof for all of them. -/
def pm_okm : Prop := ∀ y : Nat, y < 143 → Cond.code (pm_nm y) (pm_by y) (pm_ml y) (pm_ret y) ∈ pm_gw ∧ Cond.initialized (pm_nm y).cls ∈ pm_gw ∧
  (pm_stat.contains y = true → Cond.static (pm_nm y) ∈ pm_gw) ∧ (pm_stat.contains y = false → Cond.instanceMethod (pm_nm y) ∈ pm_gw ∧ Cond.selects (pm_nm y).cls (pm_nm y) (pm_nm y) ∈ pm_gw) ∧
  ((pm_nm y).cls ≠ "java/lang/invoke/MethodHandle" ∧ (pm_nm y).cls ≠ "java/lang/invoke/VarHandle") ∧ plainName (pm_nm y).cls = true ∧ pm_ml y ≤ 20
def pm_okt : Prop := ∀ (y : Nat) (r : Nat × Instr × Nat × List Nat), r ∈ pm_rwf y → pm_okr y r = true
def pm_ws (y : Nat) : List Cond := Cond.code (pm_nm y) (pm_by y) (pm_ml y) (pm_ret y) :: pm_gw
def pm_rm (y : Nat) : Room := { frames := pm_rk y, cells := 0, slots := 0, locals := 40 * pm_rk y }
def pm_ov (ad : Nat → Nat) (o : Option pm_V) : Option Value := o.map (pm_to ad)
def pm_Qc (dC : Nat → ClassId) (dI : Nat → Nat → Nat) (ad : Nat → Nat) (cI cQ : ClassId) (res : pm_O) (A : Nat → Prop) : Array Value → State → Outcome → State → Prop := fun _ st oc t =>
  oc = .returned (pm_ov ad res.1) ∧ va_P (dC, dI) pm_cls (pm_w ad cI cQ res.2) t.heap ∧ va_D A (pm_w ad cI cQ res.2) ∧ va_F A st t
def pm_Pc (dC : Nat → ClassId) (dI : Nat → Nat → Nat) (ad : Nat → Nat) (cI cQ : ClassId) (vs : List pm_V) (M : pm_M) (sz : Nat) : Array Value → State → Prop := va_Pc (vs.map (pm_to ad)) (fun U => U.heap.size = sz ∧ va_P (dC, dI) pm_cls (pm_w ad cI cQ M) U.heap ∧ va_K (dC, dI) pm_cls [(cI, .int), (cQ, .array .int)] U ∧ va_D (fun _ => True) (pm_w ad cI cQ M) ∧ ∀ w ∈ pm_nw, va_Nw w U)
theorem pm_blind {dC : Nat → ClassId} {dI : Nat → Nat → Nat} {ad : Nat → Nat} {cI cQ : ClassId} {vs : List pm_V} {M : pm_M} {sz : Nat} : FrameBlind (pm_Pc dC dI ad cI cQ vs M sz) := by
  intro a U g mk h
  obtain ⟨h0, h1, h2, h3, h4, h5⟩ := h
  exact ⟨h0, h1, h2, va_K.moved (u := U) (U := U.calling g mk a) (Vm.Alike.refl U.vm) h3, h4, pm_nw_same (u := U) rfl h5⟩
theorem pm_good (y : Nat) (h : Cond.code (pm_nm y) (pm_by y) (pm_ml y) (pm_ret y) ∈ pm_gw) : GoodIn pm_gw (pm_ws y) := by
  intro w hw
  rcases List.mem_cons.mp hw with rfl | hw
  · exact ⟨h, good_of_word (pm_gw_good h)⟩
  · exact ⟨hw, good_of_word (pm_gw_good hw)⟩
theorem pm_lgsl (ad : Nat → Nat) : ∀ vs : List pm_V, (lg_sl (vs.map (pm_to ad))).length = (pm_args vs).length
  | [] => rfl
  | .inl x :: t => by
    have h := pm_lgsl ad t
    simp only [lg_sl, List.map_cons, List.flatMap_cons, List.length_append, pm_args, List.length_cons] at h ⊢
    rw [h]
    simp [pm_to, Value.category]
    omega
  | .inr (.inl x) :: t => by
    have h := pm_lgsl ad t
    simp only [lg_sl, List.map_cons, List.flatMap_cons, List.length_append, pm_args, List.length_cons] at h ⊢
    rw [h]
    simp [pm_to, Value.category]
    omega
  | .inr (.inr x) :: t => by
    have h := pm_lgsl ad t
    simp only [lg_sl, List.map_cons, List.flatMap_cons, List.length_append, pm_args, List.length_cons] at h ⊢
    rw [h]
    simp [pm_to, Value.category]
    omega
/-- what the caller of a run must show of its end -/
def pm_Fin (p : Program) (l : Launch) (e : Env) (R : Room) (s : State) (m : MethodId) (args : Array Value) (below : List Frame) (meth : Method) (c : Code) (cells slots : Nat) (Q : State → Prop) (H0 : Heap) (A : Nat → Prop) (dC : Nat → ClassId) (dI : Nat → Nat → Nat) (ad : Nat → Nat) (cI cQ : ClassId) (y : Nat) (res : pm_O) : Prop :=
  ∀ (H : Heap) (locs : List Loc) (ls : Array Slot) (pc : Nat), va_P (dC, dI) pm_cls (pm_w ad cI cQ res.2) H → va_D A (pm_w ad cI cQ res.2) → va_S A H0 H locs →
    (∀ v : Int32, res.1 = some (.inl v) → (pm_ret y = some .int ∨ (pm_ret y = some .boolean ∧ (v = 0 ∨ v = 1))) → decode (pm_by y) pc = .ok (.ireturn, 1) → W p l e R s m args below meth c H locs cells slots Q (F0 m pc ls [.int v])) ∧
    (∀ v : Int64, res.1 = some (.inr (.inr v)) → pm_ret y = some .long → decode (pm_by y) pc = .ok (.lreturn, 1) → W p l e R s m args below meth c H locs cells slots Q (F0 m pc ls [.long v])) ∧
    (res.1 = none → pm_ret y = none → decode (pm_by y) pc = .ok (.return_, 1) → W p l e R s m args below meth c H locs cells slots Q (F0 m pc ls []))
section PMU
variable {p : Program} {l : Launch} {e : Env} {R : Room} {s : State} {m : MethodId} {args : Array Value} {below : List Frame} {meth : Method} {c : Code} {H0 : Heap} {cells slots : Nat} {Q : State → Prop} {dC : Nat → ClassId} {dI : Nat → Nat → Nat} {A : Nat → Prop} {ad : Nat → Nat} {cI cQ : ClassId} {X : pm_X} {y : Nat}
set_option maxHeartbeats 4000000 in
/-- a return -/
theorem pm_ret_ok {pc len : Nat} {i : Instr} {ax : List Nat} {ls2 : pm_L} {st : List pm_V} {M : pm_M} {res : pm_O}
    (hdec : decode (pm_by y) pc = .ok (i, len)) (hlen : ∀ n, pm_ln i = some n → len = n) (hok : pm_okx y pc i ax = true) (hh : pm_stp X (pm_rb y) pc i ax ls2 st M = .inr (.inl res))
    (hfin : pm_Fin p l e R s m args below meth c cells slots Q H0 A dC dI ad cI cQ y res) : pm_G p l e R s m args below meth c cells slots Q H0 A dC dI ad cI cQ (pm_ml y) (pc, ls2, st, M) := by
  intro H locs ls hP hD hS hl
  unfold pm_stp at hh
  split at hh
  case h_58 =>
    have q := hlen 1 rfl
    subst q
    split at hh
    · split at hh
      · cases hh
      · rename_i v h0
        cases hh
        refine (hfin H locs ls pc hP hD hS).1 v rfl ?_ hdec
        simp only [pm_okx, Bool.or_eq_true, decide_eq_true_eq] at hok
        rcases hok with hok | hok
        · exact Or.inl hok
        · refine Or.inr ⟨hok, ?_⟩
          have hb : pm_rb y = true := by unfold pm_rb; rw [hok]
          rw [hb] at h0
          by_cases h9 : v = 0 ∨ v = 1
          · exact h9
          · exact absurd ⟨rfl, h9⟩ h0
    · cases hh
  case h_59 =>
    have q := hlen 1 rfl
    subst q
    split at hh
    · cases hh
      exact (hfin H locs ls pc hP hD hS).2.1 _ rfl (by simpa [pm_okx] using hok) hdec
    · cases hh
  case h_60 =>
    have q := hlen 1 rfl
    subst q
    split at hh
    · cases hh
      exact (hfin H locs ls pc hP hD hS).2.2 rfl (by simpa [pm_okx] using hok) hdec
    · cases hh
  all_goals exfalso
  all_goals (try unfold pm_ldi at hh)
  all_goals (try unfold pm_lda at hh)
  all_goals (try unfold pm_ldl at hh)
  all_goals (try unfold pm_sti at hh)
  all_goals (try unfold pm_stl at hh)
  all_goals (try unfold pm_bin at hh)
  all_goals (try unfold pm_un at hh)
  all_goals (try unfold pm_ifc at hh)
  all_goals (try unfold pm_icm at hh)
  all_goals (try unfold pm_bad at hh)
  all_goals (repeat' (split at hh))
  all_goals cases hh
/-- behind a call -/
theorem pm_run_W {H : Heap} {locs : List Loc} {pc : Nat} {ls : Array Slot} {st0 rest : List Value} {res : pm_O} {A1 : Nat → Prop} {free : Nat → Prop} {a : Array Value}
    (hr : va_Run p l e R s m args below meth c H locs cells slots 0 0 (F0 m pc ls st0) rest (pm_Qc dC dI ad cI cQ res A1 a) free) (hS : va_S A H0 H locs) (hA1 : ∀ q, A1 q → A q) (hf : ∀ q, free q → A q)
    (kk : ∀ (H1 : Heap) (locs1 : List Loc), va_P (dC, dI) pm_cls (pm_w ad cI cQ res.2) H1 → va_D A (pm_w ad cI cQ res.2) → va_S A H0 H1 locs1 → W p l e R s m args below meth c H1 locs1 cells slots Q (F0 m (pc + 3) ls ((pm_ov ad res.1).toList ++ rest))) : W p l e R s m args below meth c H locs cells slots Q (F0 m pc ls st0) := by
  intro T hT Xs
  obtain ⟨v, st₀, t, T', L, h0, X', hL, e1, e2, ⟨hv, hp, hd, hz, hk⟩, hst⟩ := hr T hT Xs
  cases hv
  rw [h0] at hz hk
  obtain ⟨t2, a1, b1⟩ := kk T'.heap (locs ++ L) (by rw [e1]; exact hp) (hd.weaken (fun _ _ _ h => hA1 _ h))
    ⟨Nat.le_trans hS.1 (by rw [e1]; exact hz), fun q h1 h2 => by rw [e1, hk q (Nat.lt_of_lt_of_le h1 hS.1) (fun z => h2 (hA1 q z))]; exact hS.2.1 q h1 h2, fun q hq => by
      rcases List.mem_append.mp hq with h | h
      · exact hS.2.2 q h
      · exact hf _ (hL q h)⟩ T' rfl X'
  exact ⟨t2, hst t2 a1, b1⟩
theorem pm_catsum (ad : Nat → Nat) : ∀ t : List pm_V, ((t.map (pm_to ad)).map fun v => v.category).sum ≤ 2 * t.length
  | [] => by simp
  | a :: t => by
    have ih := pm_catsum ad t
    have h9 : (pm_to ad a).category ≤ 2 := by
      rcases lv_cat (pm_to ad a) with h | h <;> omega
    simp only [List.map_cons, List.sum_cons, List.length_cons]
    omega
set_option maxHeartbeats 8000000 in
/-- a call: from the callee's contract -/
theorem pm_call_ok (hOK : pm_okm) (hA : ∀ q, H0.size ≤ q → A q) (hE : pm_E p s m args c H0 A dC dI ad cI cQ X y R cells slots) {pc len : Nat} {i : Instr} {ax : List Nat} {ls2 : pm_L} {st : List pm_V} {M : pm_M} {q : Nat × List pm_V × pm_C} {res : pm_O}
    (hdec : decode (pm_by y) pc = .ok (i, len)) (hlen : ∀ n, pm_ln i = some n → len = n) (hok : pm_okx y pc i ax = true) (hh : pm_stp X (pm_rb y) pc i ax ls2 st M = .inr (.inr (.inl q)))
    (hM : ∀ sz : Nat, q.1 < 143 → Met l (pm_nm q.1) (pm_ws q.1) (pm_rm q.1) (pm_Pc dC dI ad cI cQ q.2.1 q.2.2.2.2.2 sz) (pm_Qc dC dI ad cI cQ res (va_A (pm_w ad cI cQ q.2.2.2.2.2) sz)) 0 0 (va_A (pm_w ad cI cQ q.2.2.2.2.2) sz))
    (kk : pm_G p l e R s m args below meth c cells slots Q H0 A dC dI ad cI cQ (pm_ml y) (q.2.2.1, q.2.2.2.1, pm_psh res.1 q.2.2.2.2.1, res.2)) : pm_G p l e R s m args below meth c cells slots Q H0 A dC dI ad cI cQ (pm_ml y) (pc, ls2, st, M) := by
  intro H locs ls hP hD hS hl
  obtain ⟨hx, hb, hml, hown, hg, hn, hK, hX, hR1, hR2, hR3, hR4⟩ := id hE
  have hpsh : ∀ r : List pm_V, (pm_ov ad res.1).toList ++ r.map (pm_to ad) = (pm_psh res.1 r).map (pm_to ad) := by
    intro r
    unfold pm_ov pm_psh
    cases res.1 <;> rfl
  unfold pm_stp at hh
  split at hh
  case h_56 =>
    have q9 := hlen 3 rfl
    subst q9
    split at hh
    · rename_i y2 n nest wi ci
      split at hh
      · rename_i k r hdrop
        split at hh
        · rename_i hcond
          obtain ⟨hcl, hr4, hnl⟩ := hcond
          cases hh
          simp only [pm_okx, Bool.and_eq_true, decide_eq_true_eq, Bool.not_eq_true'] at hok
          obtain ⟨⟨⟨⟨⟨hlnk, hy2⟩, hrk⟩, hns⟩, hcn⟩, hpn⟩ := hok
          obtain ⟨f1, f2, f3, f4, f5, f6, f7⟩ := hOK y2 hy2
          obtain ⟨f8, f9⟩ := f4 hns
          have hM2 := hM H.size hy2
          dsimp only at hM2 kk
          have hF : ∀ z, va_A (pm_w ad cI cQ M) H.size z → A z := by
            intro z hz
            rcases hz with ⟨k9, e9, h9⟩ | h9
            · exact hD.2 k9 (z, e9) h9
            · exact hA z (Nat.le_trans hS.1 h9)
          obtain ⟨C, hC9⟩ : ∃ C : vw_C, pm_cls[ci]? = some C := by
            cases h9 : pm_cls[ci]? with
            | none => rw [h9] at hcn; cases hcn
            | some C => exact ⟨C, rfl⟩
          rw [hC9] at hcn
          have hCn : C.1 = (pm_nm y2).cls := Option.some.inj hcn
          have hsh : ∃ fl, pm_sh k = some (.inr (.inr (ci, fl))) := by
            unfold pm_cl at hcl
            split at hcl
            · rename_i cc fl h9
              cases hcl
              exact ⟨fl, h9⟩
            · cases hcl
          obtain ⟨fl, hsh⟩ := hsh
          have he := pm_w_get (ad := ad) (cI := cI) (cQ := cQ) (M := M) hsh
          have hrecv := va_recv (q := C) hK hP hC9 he
          rw [hCn] at hrecv
          have hp : PreV s H (pm_nm y2).cls (ad k) (pm_Pc dC dI ad cI cQ (.inr (.inl k) :: (st.take n).reverse) M H.size) ((st.take n).reverse.map (pm_to ad)) :=
            ⟨pm_blind, hrecv, fun U hU hW => ⟨rfl, by rw [hU], by rw [hU]; exact hP, va_K.moved hW.alike hK, hD.weaken (fun _ _ _ _ => trivial), pm_nw_warm hW hn⟩⟩
          have hst : st.map (pm_to ad) = ((st.take n).reverse.map (pm_to ad)).reverse ++ .ref (ad k) :: r.map (pm_to ad) := by
            conv => lhs; rw [← List.take_append_drop n st, hdrop]
            rw [List.map_append, List.map_reverse, List.reverse_reverse]
            rfl
          have hlen9 : ((st.take n).reverse.map (pm_to ad)).length = n := by
            rw [List.length_map, List.length_reverse, List.length_take]
            omega
          have hW9 : 2 * (F0 m pc ls (st.map (pm_to ad))).monitorRoom + ((r.map (pm_to ad)).map fun v => v.category).sum ≤ 8 := by
            have h8 := pm_catsum ad r
            have h7 : (F0 m pc ls (st.map (pm_to ad))).monitorRoom = 0 := rfl
            omega
          have hrm : (pm_rm y2).frames + 1 ≤ R.frames ∧ 8 + (pm_ml y2 + 11) + (pm_rm y2).locals ≤ R.locals := by
            constructor
            · show pm_rk y2 + 1 ≤ R.frames
              omega
            · show 8 + (pm_ml y2 + 11) + 40 * pm_rk y2 ≤ R.locals
              omega
          unfold pm_lnk at hlnk
          split at hlnk
          · simp only [decide_eq_true_eq] at hlnk
            exact pm_run_W (va_runV (n := n) (rest := r.map (pm_to ad)) ⟨hx, hb, hml, hown, hg⟩ hM2 ⟨callB_of n hg (pm_good y2 f1) rfl rfl rfl (hg _ f2) (pm_gw_at hg hlnk rfl) ⟨f5.1, f5.2, hpn⟩ hrm, hg _ f8, hg _ f9⟩ hp rfl hlen9 hl.1 hst hW9 hdec ⟨hR3, hR4⟩) hS hF hF (fun H1 l1 q1 q2 q3 => by rw [hpsh]; exact kk H1 l1 ls q1 q2 q3 hl)
          · simp only [decide_eq_true_eq] at hlnk
            exact pm_run_W (va_runVN (n := n) (rest := r.map (pm_to ad)) ⟨hx, hb, hml, hown, hg⟩ hM2 ⟨va_cnB n hg (pm_good y2 f1) rfl rfl rfl (hn _ (pm_nw_of (List.mem_of_getElem? hlnk) rfl)) (hg _ f2) ⟨f5.1, f5.2, hpn⟩ hrm, hg _ f8, hg _ f9⟩ hp rfl hlen9 hl.1 hst hW9 hdec ⟨hR3, hR4⟩) hS hF hF (fun H1 l1 q1 q2 q3 => by rw [hpsh]; exact kk H1 l1 ls q1 q2 q3 hl)
        · cases hh
      · cases hh
    · cases hh
  case h_57 =>
    have q9 := hlen 3 rfl
    subst q9
    split at hh
    · rename_i y2 n nest wi
      split at hh
      · rename_i hcond
        obtain ⟨hnl, hr4⟩ := hcond
        cases hh
        simp only [pm_okx, Bool.and_eq_true, decide_eq_true_eq] at hok
        obtain ⟨⟨⟨⟨hlnk, hy2⟩, hrk⟩, hns⟩, hpn⟩ := hok
        obtain ⟨f1, f2, f3, f4, f5, f6, f7⟩ := hOK y2 hy2
        have f8 := f3 hns
        have hM2 := hM H.size hy2
        dsimp only at hM2 kk
        have hF : ∀ z, va_A (pm_w ad cI cQ M) H.size z → A z := by
          intro z hz
          rcases hz with ⟨k9, e9, h9⟩ | h9
          · exact hD.2 k9 (z, e9) h9
          · exact hA z (Nat.le_trans hS.1 h9)
        have hp : PreS s H (pm_Pc dC dI ad cI cQ ((st.take n).reverse) M H.size) ((st.take n).reverse.map (pm_to ad)) :=
          ⟨pm_blind, fun U hU hW => ⟨rfl, by rw [hU], by rw [hU]; exact hP, va_K.moved hW.alike hK, hD.weaken (fun _ _ _ _ => trivial), pm_nw_warm hW hn⟩⟩
        have hst : st.map (pm_to ad) = ((st.take n).reverse.map (pm_to ad)).reverse ++ (st.drop n).map (pm_to ad) := by
          conv => lhs; rw [← List.take_append_drop n st]
          rw [List.map_append, List.map_reverse, List.reverse_reverse]
        have hlen9 : ((st.take n).reverse.map (pm_to ad)).length = n := by
          rw [List.length_map, List.length_reverse, List.length_take]
          omega
        have hW9 : 2 * (F0 m pc ls (st.map (pm_to ad))).monitorRoom + (((st.drop n).map (pm_to ad)).map fun v => v.category).sum ≤ 8 := by
          have h8 := pm_catsum ad (st.drop n)
          have h7 : (F0 m pc ls (st.map (pm_to ad))).monitorRoom = 0 := rfl
          omega
        have hrm : (pm_rm y2).frames + 1 ≤ R.frames ∧ 8 + (pm_ml y2 + 11) + (pm_rm y2).locals ≤ R.locals := by
          constructor
          · show pm_rk y2 + 1 ≤ R.frames
            omega
          · show 8 + (pm_ml y2 + 11) + 40 * pm_rk y2 ≤ R.locals
            omega
        unfold pm_lnk at hlnk
        split at hlnk
        · simp only [decide_eq_true_eq] at hlnk
          exact pm_run_W (va_runS (n := n) (rest := (st.drop n).map (pm_to ad)) ⟨hx, hb, hml, hown, hg⟩ hM2 ⟨callB_of n hg (pm_good y2 f1) rfl rfl rfl (hg _ f2) (pm_gw_at hg hlnk rfl) ⟨f5.1, f5.2, hpn⟩ hrm, hg _ f8⟩ hp rfl hlen9 hl.1 hst hW9 hdec ⟨hR3, hR4⟩) hS hF hF (fun H1 l1 q1 q2 q3 => by rw [hpsh]; exact kk H1 l1 ls q1 q2 q3 hl)
        · simp only [decide_eq_true_eq] at hlnk
          exact pm_run_W (va_runSN (n := n) (rest := (st.drop n).map (pm_to ad)) ⟨hx, hb, hml, hown, hg⟩ hM2 ⟨va_cnB n hg (pm_good y2 f1) rfl rfl rfl (hn _ (pm_nw_of (List.mem_of_getElem? hlnk) rfl)) (hg _ f2) ⟨f5.1, f5.2, hpn⟩ hrm, hg _ f8, trivial⟩ hp rfl hlen9 hl.1 hst hW9 hdec ⟨hR3, hR4⟩) hS hF hF (fun H1 l1 q1 q2 q3 => by rw [hpsh]; exact kk H1 l1 ls q1 q2 q3 hl)
      · cases hh
    · exfalso
      unfold pm_bad at hh
      repeat' (split at hh)
      all_goals cases hh
    · exfalso
      unfold pm_bad at hh
      repeat' (split at hh)
      all_goals cases hh
    · cases hh
  all_goals exfalso
  all_goals (try unfold pm_ldi at hh)
  all_goals (try unfold pm_lda at hh)
  all_goals (try unfold pm_ldl at hh)
  all_goals (try unfold pm_sti at hh)
  all_goals (try unfold pm_stl at hh)
  all_goals (try unfold pm_bin at hh)
  all_goals (try unfold pm_un at hh)
  all_goals (try unfold pm_ifc at hh)
  all_goals (try unfold pm_icm at hh)
  all_goals (try unfold pm_bad at hh)
  all_goals (repeat' (split at hh))
  all_goals cases hh
end PMU
end
section
/-! THE soundness: what the pure machine runs to, the machine runs to. -/
set_option maxHeartbeats 4000000 in
theorem pm_sound (hC : pm_okc) (hT : pm_okt) (hOK : pm_okm) (ha1 : (Cond.native arraycopyName) ∈ pm_gw) (ha2 : (Cond.static arraycopyName) ∈ pm_gw) (ha3 : (Cond.initialized "java/lang/System") ∈ pm_gw) (hma : (Cond.static Lib.Math.max.name) ∈ pm_gw ∧ (Cond.initialized "java/lang/Math") ∈ pm_gw ∧ (Cond.code Lib.Math.max.name Lib.Math.max.code 2 (some .int)) ∈ pm_gw ∧ (Cond.static Lib.Math.min.name) ∈ pm_gw ∧ (Cond.code Lib.Math.min.name Lib.Math.min.code 2 (some .int)) ∈ pm_gw) (l : Launch) (dC : Nat → ClassId) (dI : Nat → Nat → Nat) (ad : Nat → Nat) (cI cQ : ClassId) :
    ∀ (n : Nat) (X : pm_X) (y : Nat) (cf : pm_C) (res : pm_O), pm_ex n X y cf = some res →
    ∀ {p : Program} {e : Env} {R : Room} {s : State} {m : MethodId} {args : Array Value} {below : List Frame} {meth : Method} {c : Code} {H0 : Heap} {cells slots : Nat} {Q : State → Prop} {A : Nat → Prop},
      (∀ q, H0.size ≤ q → A q) → pm_E p s m args c H0 A dC dI ad cI cQ X y R cells slots → pm_Fin p l e R s m args below meth c cells slots Q H0 A dC dI ad cI cQ y res →
      pm_G p l e R s m args below meth c cells slots Q H0 A dC dI ad cI cQ (pm_ml y) cf := by
  intro n
  induction n with
  | zero =>
    intro X y cf res h
    cases h
  | succ n ih =>
    intro X y cf res h p e R s m args below meth c H0 cells slots Q A hA hE hfin
    obtain ⟨pc, ls2, st, M⟩ := cf
    unfold pm_ex at h
    cases hf : pm_find (pm_rwf y) pc with
    | none =>
      have h1 : pm_next X y (pc, ls2, st, M) = pm_bad := by
        unfold pm_next
        rw [hf]
      rw [h1] at h
      cases h
    | some r =>
      have hnx : pm_next X y (pc, ls2, st, M) = pm_stp X (pm_rb y) pc r.1 r.2.2 ls2 st M := by
        unfold pm_next
        rw [hf]
      have hrow := hT y (pc, r) (pm_find_mem _ _ _ hf)
      unfold pm_okr at hrow
      simp only [Bool.and_eq_true, decide_eq_true_eq] at hrow
      obtain ⟨⟨hdec, hlen0⟩, hok⟩ := hrow
      have hlen : ∀ k, pm_ln r.1 = some k → r.2.1 = k := by
        intro k hk
        rw [hk] at hlen0
        simpa using hlen0
      rw [hnx] at h
      split at h
      · rename_i c2 h1
        exact pm_stp_ok hC ha1 ha2 ha3 hma hE hdec hlen hok h1 (ih X y c2 res h hA hE hfin)
      · rename_i r1 h1
        cases h
        exact pm_ret_ok hdec hlen hok h1 hfin
      · rename_i q h1
        split at h
        · rename_i hal
          split at h
          · rename_i r2 h2
            refine pm_call_ok (res := r2) hOK hA hE hdec hlen hok h1 ?_ (ih X y _ res h hA hE hfin)
            intro sz hy2
            obtain ⟨f1, f2, f3, f4, f5, f6, f7⟩ := hOK q.1 hy2
            refine Met.ofW (cc := pm_by q.1) (maxL := pm_ml q.1) (ret := pm_ret q.1) f6 rfl ?_
            intro p' e' s' m' args' below' meth' c' s₁ B hml' hv
            obtain ⟨rfl, hsz, hP, hK, hD0, hnw⟩ := hv
            have hx' := B.exec
            have hb' := B.bytes
            have hr' := B.returns
            have hts' := atoms_spec (ws := pm_ws q.1) B.pre
            have hown' : s'.vm.findClass (pm_nm q.1).cls = some m'.cls := findClass_of_methodNamed B.named
            have hlocks' := B.notSynchronized
            subst hsz
            have hD := hD0.self (sz := s'.heap.size)
            generalize hAe : va_A (pm_w ad cI cQ q.2.2.2.2.2) s'.heap.size = A' at hD ⊢
            have hA' : ∀ z : Nat, s'.heap.size ≤ z → A' z := fun z hz => by rw [← hAe]; exact Or.inr hz
            have hl := lv_entry (q.2.1.map (pm_to ad)) (n := pm_ml q.1) (by rw [pm_lgsl]; exact hal)
            rw [lg_entry_eq]
            have hl2 : lv_has ((lg_sl (q.2.1.map (pm_to ad)) ++ List.replicate (pm_ml q.1 - (lg_sl (q.2.1.map (pm_to ad))).length) Slot.unset).toArray) (pm_ml q.1) (pm_loc ad 0 (pm_ent q.2.1 (pm_ml q.1))) :=
              ⟨hl.1, hl.2.1, fun z hz => hl.2.2 z (pm_loc_args _ q.2.1 0 hz)⟩
            refine ih pm_X0 q.1 (0, pm_ent q.2.1 (pm_ml q.1), [], q.2.2.2.2.2) r2 h2 (A := A') hA' ⟨hx', hb', hml', hown', fun w hw => hts' w (List.mem_cons_of_mem _ hw), hnw, hK, Or.inl rfl, Nat.le_refl _, Nat.le_refl _, Nat.le_refl _, Nat.le_refl _⟩ ?_ s'.heap [] _ hP hD va_S.rf hl2
            intro H locs ls pc9 hP9 hD9 hS9
            refine ⟨fun v hv hret hdg => ?_, fun v hv hret hdg => ?_, fun hv hret hdg => ?_⟩
            · rcases hret with hret | ⟨hret, hv01⟩
              · exact W.zret (ty := .int) hx' hb' (hr'.trans hret) rfl (fun t ht hW => ⟨by rw [hv]; rfl, by rw [ht]; exact hP9, hD9, hS9.F ht⟩) hS9.2.2 hdg
              · exact W.zret (ty := .boolean) hx' hb' (hr'.trans hret) (by rcases hv01 with h | h <;> subst h <;> rfl) (fun t ht hW => ⟨by rw [hv]; rfl, by rw [ht]; exact hP9, hD9, hS9.F ht⟩) hS9.2.2 hdg
            · exact W.lret hx' hb' (hr'.trans hret) (fun t ht hW => ⟨by rw [hv]; rfl, by rw [ht]; exact hP9, hD9, hS9.F ht⟩) hS9.2.2 hdg
            · exact W.vret hx' hb' (hr'.trans hret) (fun t ht hW => ⟨by rw [hv]; rfl, by rw [ht]; exact hP9, hD9, hS9.F ht⟩) hS9.2.2 hdg
          · cases h
        · cases h
      · cases h
end
section
/-! The tables are as the machine wants them. -/
def pm_jc : List Nat := [276, 281, 296, 304, 312, 328, 332, 340, 357, 398, 436, 456, 229, 233, 237, 241, 245, 481, 494, 498, 251, 254, 257, 260, 263, 269, 272, 348, 353, 367, 383, 219, 222, 225, 266, 292, 300, 308, 319, 324, 336, 344, 361, 371, 375, 379, 387, 390, 394, 402, 406, 410, 413, 423, 427, 432, 440, 444, 448, 452, 460, 464, 468, 473, 477, 485, 490, 502, 507, 513, 517, 521, 525, 529, 533, 537, 541, 545, 549, 650, 653, 656, 659, 663, 667, 671, 675, 679, 683, 687, 691, 695, 699, 703, 707, 711, 715, 719, 723, 727, 731, 735, 739, 743, 747, 751, 755, 759, 763, 767, 771, 775, 779, 783, 787, 790, 794, 798, 802, 806, 810, 814, 818, 822, 826, 830, 834, 838, 842, 846, 850, 854, 858, 862, 866, 870, 874, 878, 882, 886, 890, 416, 91]
def pm_ji : List Nat := [65, 65, 65, 65, 65, 65, 65, 65, 65, 65, 67, 67, 63, 63, 63, 63, 63, 63, 63, 63, 70, 70, 70, 70, 70, 70, 70, 66, 66, 66, 66, 62, 62, 62, 62, 62, 62, 62, 62, 62, 62, 62, 62, 62, 62, 62, 62, 62, 62, 62, 62, 62, 62, 62, 62, 62, 62, 62, 62, 62, 62, 62, 62, 62, 62, 62, 62, 62, 62, 62, 62, 62, 62, 62, 62, 62, 62, 62, 62, 68, 68, 68, 68, 68, 68, 68, 68, 68, 68, 68, 68, 68, 68, 68, 68, 68, 68, 68, 68, 68, 68, 68, 68, 68, 68, 68, 68, 68, 68, 68, 68, 68, 68, 68, 68, 68, 68, 68, 68, 68, 68, 68, 68, 68, 68, 68, 68, 68, 68, 68, 68, 68, 68, 68, 68, 68, 68, 68, 68, 68, 68, 72, 64]
def pm_jm : List Nat := [275, 280, 295, 303, 311, 327, 331, 339, 356, 397, 435, 455, 228, 232, 236, 240, 244, 480, 493, 497, 250, 253, 256, 259, 262, 268, 271, 347, 352, 366, 382, 217, 221, 224, 265, 290, 298, 306, 317, 322, 334, 343, 360, 369, 373, 377, 385, 389, 393, 401, 405, 408, 412, 421, 425, 430, 438, 442, 447, 451, 458, 462, 466, 472, 475, 483, 488, 500, 505, 511, 516, 520, 524, 528, 531, 535, 539, 543, 547, 648, 652, 655, 658, 662, 666, 670, 674, 678, 682, 686, 690, 694, 697, 702, 705, 710, 713, 718, 721, 725, 730, 733, 738, 742, 746, 750, 754, 757, 761, 765, 770, 773, 778, 782, 785, 789, 792, 796, 801, 804, 808, 812, 817, 821, 824, 828, 832, 837, 840, 844, 848, 852, 857, 860, 864, 869, 872, 876, 880, 884, 888, 415, 90]
def pm_js : List Nat := [5, 6, 7, 8, 9, 10, 11, 12, 16, 20, 23, 26, 0, 1, 2, 3, 4, 28, 29, 30, 0, 0, 0, 0, 0, 0, 0, 14, 15, 17, 18, 218, 0, 0, 0, 291, 299, 307, 318, 323, 335, 13, 0, 370, 374, 378, 386, 0, 19, 21, 22, 409, 0, 422, 426, 431, 439, 443, 24, 25, 459, 463, 467, 27, 476, 484, 489, 501, 506, 512, 31, 32, 33, 34, 532, 536, 540, 544, 548, 649, 0, 0, 0, 35, 36, 37, 38, 39, 40, 41, 42, 43, 698, 44, 706, 45, 714, 46, 722, 726, 47, 734, 48, 49, 50, 51, 52, 758, 762, 766, 53, 774, 54, 55, 786, 0, 793, 797, 56, 805, 809, 813, 57, 58, 825, 829, 833, 0, 841, 845, 849, 853, 59, 861, 865, 60, 873, 877, 881, 885, 889, 0, 0]
def pm_cP (y : Nat) : Prop := lw_tbl[pm_jc.getD y 0]? = some (Cond.code (pm_nm y) (pm_by y) (pm_ml y) (pm_ret y))
theorem pm_cc_0 : ∀ a, a < 0 → pm_cP a := lt_0
set_option maxRecDepth 100000 in
theorem pm_c_0 : lw_tbl[276]? = some (Cond.code yX0_become cX0_become 5 (none)) := rfl
theorem pm_cc_1 : ∀ a, a < 1 → pm_cP a := lt_s pm_cc_0 pm_c_0
set_option maxRecDepth 100000 in
theorem pm_c_1 : lw_tbl[281]? = some (Cond.code yX0_posts cX0_posts 1 (some .int)) := rfl
theorem pm_cc_2 : ∀ a, a < 2 → pm_cP a := lt_s pm_cc_1 pm_c_1
set_option maxRecDepth 100000 in
theorem pm_c_2 : lw_tbl[296]? = some (Cond.code yX0_hasField cX0_hasField 2 (some .boolean)) := rfl
theorem pm_cc_3 : ∀ a, a < 3 → pm_cP a := lt_s pm_cc_2 pm_c_2
set_option maxRecDepth 100000 in
theorem pm_c_3 : lw_tbl[304]? = some (Cond.code yX0_hasPost cX0_hasPost 2 (some .boolean)) := rfl
theorem pm_cc_4 : ∀ a, a < 4 → pm_cP a := lt_s pm_cc_3 pm_c_3
set_option maxRecDepth 100000 in
theorem pm_c_4 : lw_tbl[312]? = some (Cond.code yX0_letBy cX0_letBy 4 (some .int)) := rfl
theorem pm_cc_5 : ∀ a, a < 5 → pm_cP a := lt_s pm_cc_4 pm_c_4
set_option maxRecDepth 100000 in
theorem pm_c_5 : lw_tbl[328]? = some (Cond.code yX0_exists cX0_exists 1 (some .boolean)) := rfl
theorem pm_cc_6 : ∀ a, a < 6 → pm_cP a := lt_s pm_cc_5 pm_c_5
set_option maxRecDepth 100000 in
theorem pm_c_6 : lw_tbl[332]? = some (Cond.code yX0_hasDay cX0_hasDay 2 (some .boolean)) := rfl
theorem pm_cc_7 : ∀ a, a < 7 → pm_cP a := lt_s pm_cc_6 pm_c_6
set_option maxRecDepth 100000 in
theorem pm_c_7 : lw_tbl[340]? = some (Cond.code yX0_hasBehind cX0_hasBehind 2 (some .boolean)) := rfl
theorem pm_cc_8 : ∀ a, a < 8 → pm_cP a := lt_s pm_cc_7 pm_c_7
set_option maxRecDepth 100000 in
theorem pm_c_8 : lw_tbl[357]? = some (Cond.code yX0_goesOn cX0_goesOn 5 (some .int)) := rfl
theorem pm_cc_9 : ∀ a, a < 9 → pm_cP a := lt_s pm_cc_8 pm_c_8
set_option maxRecDepth 100000 in
theorem pm_c_9 : lw_tbl[398]? = some (Cond.code yX0_setsOfPosts cX0_setsOfPosts 1 (some .int)) := rfl
theorem pm_cc_10 : ∀ a, a < 10 → pm_cP a := lt_s pm_cc_9 pm_c_9
set_option maxRecDepth 100000 in
theorem pm_c_10 : lw_tbl[436]? = some (Cond.code yX1_keep cX1_keep 5 (some .int)) := rfl
theorem pm_cc_11 : ∀ a, a < 11 → pm_cP a := lt_s pm_cc_10 pm_c_10
set_option maxRecDepth 100000 in
theorem pm_c_11 : lw_tbl[456]? = some (Cond.code yX1_areSo cX1_areSo 4 (some .boolean)) := rfl
theorem pm_cc_12 : ∀ a, a < 12 → pm_cP a := lt_s pm_cc_11 pm_c_11
set_option maxRecDepth 100000 in
theorem pm_c_12 : lw_tbl[229]? = some (Cond.code yX2_faultOfCells cX2_faultOfCells 6 (some .int)) := rfl
theorem pm_cc_13 : ∀ a, a < 13 → pm_cP a := lt_s pm_cc_12 pm_c_12
set_option maxRecDepth 100000 in
theorem pm_c_13 : lw_tbl[233]? = some (Cond.code yX2_faultOfLane cX2_faultOfLane 3 (some .int)) := rfl
theorem pm_cc_14 : ∀ a, a < 14 → pm_cP a := lt_s pm_cc_13 pm_c_13
set_option maxRecDepth 100000 in
theorem pm_c_14 : lw_tbl[237]? = some (Cond.code yX2_isNothing cX2_isNothing 2 (some .boolean)) := rfl
theorem pm_cc_15 : ∀ a, a < 15 → pm_cP a := lt_s pm_cc_14 pm_c_14
set_option maxRecDepth 100000 in
theorem pm_c_15 : lw_tbl[241]? = some (Cond.code yX2_hasCells cX2_hasCells 4 (some .boolean)) := rfl
theorem pm_cc_16 : ∀ a, a < 16 → pm_cP a := lt_s pm_cc_15 pm_c_15
set_option maxRecDepth 100000 in
theorem pm_c_16 : lw_tbl[245]? = some (Cond.code yX2_read cX2_read 5 (none)) := rfl
theorem pm_cc_17 : ∀ a, a < 17 → pm_cP a := lt_s pm_cc_16 pm_c_16
set_option maxRecDepth 100000 in
theorem pm_c_17 : lw_tbl[481]? = some (Cond.code yX2_renew cX2_renew 4 (none)) := rfl
theorem pm_cc_18 : ∀ a, a < 18 → pm_cP a := lt_s pm_cc_17 pm_c_17
set_option maxRecDepth 100000 in
theorem pm_c_18 : lw_tbl[494]? = some (Cond.code yX2_hasCell cX2_hasCell 3 (some .boolean)) := rfl
theorem pm_cc_19 : ∀ a, a < 19 → pm_cP a := lt_s pm_cc_18 pm_c_18
set_option maxRecDepth 100000 in
theorem pm_c_19 : lw_tbl[498]? = some (Cond.code yX2_write cX2_write 4 (none)) := rfl
theorem pm_cc_20 : ∀ a, a < 20 → pm_cP a := lt_s pm_cc_19 pm_c_19
set_option maxRecDepth 100000 in
theorem pm_c_20 : lw_tbl[251]? = some (Cond.code yX3_firstFault cX3_firstFault 3 (some .int)) := rfl
theorem pm_cc_21 : ∀ a, a < 21 → pm_cP a := lt_s pm_cc_20 pm_c_20
set_option maxRecDepth 100000 in
theorem pm_c_21 : lw_tbl[254]? = some (Cond.code yX3_goesOn cX3_goesOn 6 (some .boolean)) := rfl
theorem pm_cc_22 : ∀ a, a < 22 → pm_cP a := lt_s pm_cc_21 pm_c_21
set_option maxRecDepth 100000 in
theorem pm_c_22 : lw_tbl[257]? = some (Cond.code yX3_digit cX3_digit 1 (some .int)) := rfl
theorem pm_cc_23 : ∀ a, a < 23 → pm_cP a := lt_s pm_cc_22 pm_c_22
set_option maxRecDepth 100000 in
theorem pm_c_23 : lw_tbl[260]? = some (Cond.code yX3_bordersAt cX3_bordersAt 1 (some .int)) := rfl
theorem pm_cc_24 : ∀ a, a < 24 → pm_cP a := lt_s pm_cc_23 pm_c_23
set_option maxRecDepth 100000 in
theorem pm_c_24 : lw_tbl[263]? = some (Cond.code yX3_rainsAt cX3_rainsAt 1 (some .int)) := rfl
theorem pm_cc_25 : ∀ a, a < 25 → pm_cP a := lt_s pm_cc_24 pm_c_24
set_option maxRecDepth 100000 in
theorem pm_c_25 : lw_tbl[269]? = some (Cond.code yX3_goesOnInBorder cX3_goesOnInBorder 2 (some .boolean)) := rfl
theorem pm_cc_26 : ∀ a, a < 26 → pm_cP a := lt_s pm_cc_25 pm_c_25
set_option maxRecDepth 100000 in
theorem pm_c_26 : lw_tbl[272]? = some (Cond.code yX3_kind cX3_kind 1 (some .int)) := rfl
theorem pm_cc_27 : ∀ a, a < 27 → pm_cP a := lt_s pm_cc_26 pm_c_26
set_option maxRecDepth 100000 in
theorem pm_c_27 : lw_tbl[348]? = some (Cond.code yX4_begin cX4_begin 1 (none)) := rfl
theorem pm_cc_28 : ∀ a, a < 28 → pm_cP a := lt_s pm_cc_27 pm_c_27
set_option maxRecDepth 100000 in
theorem pm_c_28 : lw_tbl[353]? = some (Cond.code yX4_pass cX4_pass 9 (none)) := rfl
theorem pm_cc_29 : ∀ a, a < 29 → pm_cP a := lt_s pm_cc_28 pm_c_28
set_option maxRecDepth 100000 in
theorem pm_c_29 : lw_tbl[367]? = some (Cond.code yX4_floodOn cX4_floodOn 3 (none)) := rfl
theorem pm_cc_30 : ∀ a, a < 30 → pm_cP a := lt_s pm_cc_29 pm_c_29
set_option maxRecDepth 100000 in
theorem pm_c_30 : lw_tbl[383]? = some (Cond.code yX4_contented cX4_contented 4 (some .int)) := rfl
theorem pm_cc_31 : ∀ a, a < 31 → pm_cP a := lt_s pm_cc_30 pm_c_30
set_option maxRecDepth 100000 in
theorem pm_c_31 : lw_tbl[219]? = some (Cond.code yX5_land cX5_land 6 (some .int)) := rfl
theorem pm_cc_32 : ∀ a, a < 32 → pm_cP a := lt_s pm_cc_31 pm_c_31
set_option maxRecDepth 100000 in
theorem pm_c_32 : lw_tbl[222]? = some (Cond.code yX5_isSheet cX5_isSheet 1 (some .boolean)) := rfl
theorem pm_cc_33 : ∀ a, a < 33 → pm_cP a := lt_s pm_cc_32 pm_c_32
set_option maxRecDepth 100000 in
theorem pm_c_33 : lw_tbl[225]? = some (Cond.code yX5_isLane cX5_isLane 1 (some .boolean)) := rfl
theorem pm_cc_34 : ∀ a, a < 34 → pm_cP a := lt_s pm_cc_33 pm_c_33
set_option maxRecDepth 100000 in
theorem pm_c_34 : lw_tbl[266]? = some (Cond.code yX5_isDigit cX5_isDigit 1 (some .boolean)) := rfl
theorem pm_cc_35 : ∀ a, a < 35 → pm_cP a := lt_s pm_cc_34 pm_c_34
set_option maxRecDepth 100000 in
theorem pm_c_35 : lw_tbl[292]? = some (Cond.code yX5_ofField cX5_ofField 3 (some .int)) := rfl
theorem pm_cc_36 : ∀ a, a < 36 → pm_cP a := lt_s pm_cc_35 pm_c_35
set_option maxRecDepth 100000 in
theorem pm_c_36 : lw_tbl[300]? = some (Cond.code yX5_ofPost cX5_ofPost 3 (some .int)) := rfl
theorem pm_cc_37 : ∀ a, a < 37 → pm_cP a := lt_s pm_cc_36 pm_c_36
set_option maxRecDepth 100000 in
theorem pm_c_37 : lw_tbl[308]? = some (Cond.code yX5_lets cX5_lets 3 (some .int)) := rfl
theorem pm_cc_38 : ∀ a, a < 38 → pm_cP a := lt_s pm_cc_37 pm_c_37
set_option maxRecDepth 100000 in
theorem pm_c_38 : lw_tbl[319]? = some (Cond.code yX5_limit cX5_limit 4 (some .int)) := rfl
theorem pm_cc_39 : ∀ a, a < 39 → pm_cP a := lt_s pm_cc_38 pm_c_38
set_option maxRecDepth 100000 in
theorem pm_c_39 : lw_tbl[324]? = some (Cond.code yX5_rain cX5_rain 4 (some .int)) := rfl
theorem pm_cc_40 : ∀ a, a < 40 → pm_cP a := lt_s pm_cc_39 pm_c_39
set_option maxRecDepth 100000 in
theorem pm_c_40 : lw_tbl[336]? = some (Cond.code yX5_wet cX5_wet 3 (some .int)) := rfl
theorem pm_cc_41 : ∀ a, a < 41 → pm_cP a := lt_s pm_cc_40 pm_c_40
set_option maxRecDepth 100000 in
theorem pm_c_41 : lw_tbl[344]? = some (Cond.code yX5_blow cX5_blow 5 (none)) := rfl
theorem pm_cc_42 : ∀ a, a < 42 → pm_cP a := lt_s pm_cc_41 pm_c_41
set_option maxRecDepth 100000 in
theorem pm_c_42 : lw_tbl[361]? = some (Cond.code yX5_isIn cX5_isIn 2 (some .boolean)) := rfl
theorem pm_cc_43 : ∀ a, a < 43 → pm_cP a := lt_s pm_cc_42 pm_c_42
set_option maxRecDepth 100000 in
theorem pm_c_43 : lw_tbl[371]? = some (Cond.code yX5_fell cX5_fell 3 (some .int)) := rfl
theorem pm_cc_44 : ∀ a, a < 44 → pm_cP a := lt_s pm_cc_43 pm_c_43
set_option maxRecDepth 100000 in
theorem pm_c_44 : lw_tbl[375]? = some (Cond.code yX5_flood cX5_flood 2 (some .int)) := rfl
theorem pm_cc_45 : ∀ a, a < 45 → pm_cP a := lt_s pm_cc_44 pm_c_44
set_option maxRecDepth 100000 in
theorem pm_c_45 : lw_tbl[379]? = some (Cond.code yX5_enough cX5_enough 1 (some .int)) := rfl
theorem pm_cc_46 : ∀ a, a < 46 → pm_cP a := lt_s pm_cc_45 pm_c_45
set_option maxRecDepth 100000 in
theorem pm_c_46 : lw_tbl[387]? = some (Cond.code yX5_plan cX5_plan 6 (some .int)) := rfl
theorem pm_cc_47 : ∀ a, a < 47 → pm_cP a := lt_s pm_cc_46 pm_c_46
set_option maxRecDepth 100000 in
theorem pm_c_47 : lw_tbl[390]? = some (Cond.code yX5_isAskedOfPlan cX5_isAskedOfPlan 1 (some .boolean)) := rfl
theorem pm_cc_48 : ∀ a, a < 48 → pm_cP a := lt_s pm_cc_47 pm_c_47
set_option maxRecDepth 100000 in
theorem pm_c_48 : lw_tbl[394]? = some (Cond.code yX5_areSetsOfPosts cX5_areSetsOfPosts 3 (some .boolean)) := rfl
theorem pm_cc_49 : ∀ a, a < 49 → pm_cP a := lt_s pm_cc_48 pm_c_48
set_option maxRecDepth 100000 in
theorem pm_c_49 : lw_tbl[402]? = some (Cond.code yX5_ofPlan cX5_ofPlan 3 (some .int)) := rfl
theorem pm_cc_50 : ∀ a, a < 50 → pm_cP a := lt_s pm_cc_49 pm_c_49
set_option maxRecDepth 100000 in
theorem pm_c_50 : lw_tbl[406]? = some (Cond.code yX5_ofPlanField cX5_ofPlanField 3 (some .int)) := rfl
theorem pm_cc_51 : ∀ a, a < 51 → pm_cP a := lt_s pm_cc_50 pm_c_50
set_option maxRecDepth 100000 in
theorem pm_c_51 : lw_tbl[410]? = some (Cond.code yX5_papers cX5_papers 3 (some .int)) := rfl
theorem pm_cc_52 : ∀ a, a < 52 → pm_cP a := lt_s pm_cc_51 pm_c_51
set_option maxRecDepth 100000 in
theorem pm_c_52 : lw_tbl[413]? = some (Cond.code yX5_isFewer cX5_isFewer 2 (some .boolean)) := rfl
theorem pm_cc_53 : ∀ a, a < 53 → pm_cP a := lt_s pm_cc_52 pm_c_52
set_option maxRecDepth 100000 in
theorem pm_c_53 : lw_tbl[423]? = some (Cond.code yX5_most cX5_most 5 (some .int)) := rfl
theorem pm_cc_54 : ∀ a, a < 54 → pm_cP a := lt_s pm_cc_53 pm_c_53
set_option maxRecDepth 100000 in
theorem pm_c_54 : lw_tbl[427]? = some (Cond.code yX5_shut cX5_shut 4 (some .int)) := rfl
theorem pm_cc_55 : ∀ a, a < 55 → pm_cP a := lt_s pm_cc_54 pm_c_54
set_option maxRecDepth 100000 in
theorem pm_c_55 : lw_tbl[432]? = some (Cond.code yX5_reading cX5_reading 4 (some .int)) := rfl
theorem pm_cc_56 : ∀ a, a < 56 → pm_cP a := lt_s pm_cc_55 pm_c_55
set_option maxRecDepth 100000 in
theorem pm_c_56 : lw_tbl[440]? = some (Cond.code yX5_back cX5_back 2 (some .int)) := rfl
theorem pm_cc_57 : ∀ a, a < 57 → pm_cP a := lt_s pm_cc_56 pm_c_56
set_option maxRecDepth 100000 in
theorem pm_c_57 : lw_tbl[444]? = some (Cond.code yX5_limits cX5_limits 2 (some .int)) := rfl
theorem pm_cc_58 : ∀ a, a < 58 → pm_cP a := lt_s pm_cc_57 pm_c_57
set_option maxRecDepth 100000 in
theorem pm_c_58 : lw_tbl[448]? = some (Cond.code yX5_fitting cX5_fitting 7 (some .int)) := rfl
theorem pm_cc_59 : ∀ a, a < 59 → pm_cP a := lt_s pm_cc_58 pm_c_58
set_option maxRecDepth 100000 in
theorem pm_c_59 : lw_tbl[452]? = some (Cond.code yX5_areReadingsSo cX5_areReadingsSo 3 (some .boolean)) := rfl
theorem pm_cc_60 : ∀ a, a < 60 → pm_cP a := lt_s pm_cc_59 pm_c_59
set_option maxRecDepth 100000 in
theorem pm_c_60 : lw_tbl[460]? = some (Cond.code yX5_kinds cX5_kinds 2 (some .int)) := rfl
theorem pm_cc_61 : ∀ a, a < 61 → pm_cP a := lt_s pm_cc_60 pm_c_60
set_option maxRecDepth 100000 in
theorem pm_c_61 : lw_tbl[464]? = some (Cond.code yX5_rains cX5_rains 2 (some .int)) := rfl
theorem pm_cc_62 : ∀ a, a < 62 → pm_cP a := lt_s pm_cc_61 pm_c_61
set_option maxRecDepth 100000 in
theorem pm_c_62 : lw_tbl[468]? = some (Cond.code yX5_odds cX5_odds 6 (some .long)) := rfl
theorem pm_cc_63 : ∀ a, a < 63 → pm_cP a := lt_s pm_cc_62 pm_c_62
set_option maxRecDepth 100000 in
theorem pm_c_63 : lw_tbl[473]? = some (Cond.code yX5_setsOfDaysThatFlood cX5_setsOfDaysThatFlood 5 (some .int)) := rfl
theorem pm_cc_64 : ∀ a, a < 64 → pm_cP a := lt_s pm_cc_63 pm_c_63
set_option maxRecDepth 100000 in
theorem pm_c_64 : lw_tbl[477]? = some (Cond.code yX5_sheet cX5_sheet 4 (some .int)) := rfl
theorem pm_cc_65 : ∀ a, a < 65 → pm_cP a := lt_s pm_cc_64 pm_c_64
set_option maxRecDepth 100000 in
theorem pm_c_65 : lw_tbl[485]? = some (Cond.code yX5_lose cX5_lose 3 (some .int)) := rfl
theorem pm_cc_66 : ∀ a, a < 66 → pm_cP a := lt_s pm_cc_65 pm_c_65
set_option maxRecDepth 100000 in
theorem pm_c_66 : lw_tbl[490]? = some (Cond.code yX5_put cX5_put 4 (some .int)) := rfl
theorem pm_cc_67 : ∀ a, a < 67 → pm_cP a := lt_s pm_cc_66 pm_c_66
set_option maxRecDepth 100000 in
theorem pm_c_67 : lw_tbl[502]? = some (Cond.code yX5_cell cX5_cell 4 (some .long)) := rfl
theorem pm_cc_68 : ∀ a, a < 68 → pm_cP a := lt_s pm_cc_67 pm_c_67
set_option maxRecDepth 100000 in
theorem pm_c_68 : lw_tbl[507]? = some (Cond.code yX5_copy cX5_copy 6 (some .int)) := rfl
theorem pm_cc_69 : ∀ a, a < 69 → pm_cP a := lt_s pm_cc_68 pm_c_68
set_option maxRecDepth 100000 in
theorem pm_c_69 : lw_tbl[513]? = some (Cond.code yX5_tell cX5_tell 2 (some .int)) := rfl
theorem pm_cc_70 : ∀ a, a < 70 → pm_cP a := lt_s pm_cc_69 pm_c_69
set_option maxRecDepth 100000 in
theorem pm_c_70 : lw_tbl[517]? = some (Cond.code yX5_tellAsFree cX5_tellAsFree 3 (some .int)) := rfl
theorem pm_cc_71 : ∀ a, a < 71 → pm_cP a := lt_s pm_cc_70 pm_c_70
set_option maxRecDepth 100000 in
theorem pm_c_71 : lw_tbl[521]? = some (Cond.code yX5_leave cX5_leave 2 (none)) := rfl
theorem pm_cc_72 : ∀ a, a < 72 → pm_cP a := lt_s pm_cc_71 pm_c_71
set_option maxRecDepth 100000 in
theorem pm_c_72 : lw_tbl[525]? = some (Cond.code yX5_tellAsCustoms cX5_tellAsCustoms 2 (some .int)) := rfl
theorem pm_cc_73 : ∀ a, a < 73 → pm_cP a := lt_s pm_cc_72 pm_c_72
set_option maxRecDepth 100000 in
theorem pm_c_73 : lw_tbl[529]? = some (Cond.code yX5_tellAsPost cX5_tellAsPost 2 (some .int)) := rfl
theorem pm_cc_74 : ∀ a, a < 74 → pm_cP a := lt_s pm_cc_73 pm_c_73
set_option maxRecDepth 100000 in
theorem pm_c_74 : lw_tbl[533]? = some (Cond.code yX5_stamp cX5_stamp 2 (some .int)) := rfl
theorem pm_cc_75 : ∀ a, a < 75 → pm_cP a := lt_s pm_cc_74 pm_c_74
set_option maxRecDepth 100000 in
theorem pm_c_75 : lw_tbl[537]? = some (Cond.code yX5_as cX5_as 3 (some .int)) := rfl
theorem pm_cc_76 : ∀ a, a < 76 → pm_cP a := lt_s pm_cc_75 pm_c_75
set_option maxRecDepth 100000 in
theorem pm_c_76 : lw_tbl[541]? = some (Cond.code yX5_trace cX5_trace 1 (some .int)) := rfl
theorem pm_cc_77 : ∀ a, a < 77 → pm_cP a := lt_s pm_cc_76 pm_c_76
set_option maxRecDepth 100000 in
theorem pm_c_77 : lw_tbl[545]? = some (Cond.code yX5_fault cX5_fault 1 (some .int)) := rfl
theorem pm_cc_78 : ∀ a, a < 78 → pm_cP a := lt_s pm_cc_77 pm_c_77
set_option maxRecDepth 100000 in
theorem pm_c_78 : lw_tbl[549]? = some (Cond.code yX5_many cX5_many 2 (some .int)) := rfl
theorem pm_cc_79 : ∀ a, a < 79 → pm_cP a := lt_s pm_cc_78 pm_c_78
set_option maxRecDepth 100000 in
theorem pm_c_79 : lw_tbl[650]? = some (Cond.code yX6_land cX6_land 7 (some .int)) := rfl
theorem pm_cc_80 : ∀ a, a < 80 → pm_cP a := lt_s pm_cc_79 pm_c_79
set_option maxRecDepth 100000 in
theorem pm_c_80 : lw_tbl[653]? = some (Cond.code yX6_isSheet cX6_isSheet 1 (some .boolean)) := rfl
theorem pm_cc_81 : ∀ a, a < 81 → pm_cP a := lt_s pm_cc_80 pm_c_80
set_option maxRecDepth 100000 in
theorem pm_c_81 : lw_tbl[656]? = some (Cond.code yX6_within cX6_within 3 (some .boolean)) := rfl
theorem pm_cc_82 : ∀ a, a < 82 → pm_cP a := lt_s pm_cc_81 pm_c_81
set_option maxRecDepth 100000 in
theorem pm_c_82 : lw_tbl[659]? = some (Cond.code yX6_isSort cX6_isSort 1 (some .boolean)) := rfl
theorem pm_cc_83 : ∀ a, a < 83 → pm_cP a := lt_s pm_cc_82 pm_c_82
set_option maxRecDepth 100000 in
theorem pm_c_83 : lw_tbl[663]? = some (Cond.code yX6_against cX6_against 5 (some .int)) := rfl
theorem pm_cc_84 : ∀ a, a < 84 → pm_cP a := lt_s pm_cc_83 pm_c_83
set_option maxRecDepth 100000 in
theorem pm_c_84 : lw_tbl[667]? = some (Cond.code yX6_fails cX6_fails 2 (some .int)) := rfl
theorem pm_cc_85 : ∀ a, a < 85 → pm_cP a := lt_s pm_cc_84 pm_c_84
set_option maxRecDepth 100000 in
theorem pm_c_85 : lw_tbl[671]? = some (Cond.code yX6_readLand cX6_readLand 3 (some .boolean)) := rfl
theorem pm_cc_86 : ∀ a, a < 86 → pm_cP a := lt_s pm_cc_85 pm_c_85
set_option maxRecDepth 100000 in
theorem pm_c_86 : lw_tbl[675]? = some (Cond.code yX6_isSign cX6_isSign 3 (some .boolean)) := rfl
theorem pm_cc_87 : ∀ a, a < 87 → pm_cP a := lt_s pm_cc_86 pm_c_86
set_option maxRecDepth 100000 in
theorem pm_c_87 : lw_tbl[679]? = some (Cond.code yX6_digit cX6_digit 4 (some .int)) := rfl
theorem pm_cc_88 : ∀ a, a < 88 → pm_cP a := lt_s pm_cc_87 pm_c_87
set_option maxRecDepth 100000 in
theorem pm_c_88 : lw_tbl[683]? = some (Cond.code yX6_readField cX6_readField 3 (some .boolean)) := rfl
theorem pm_cc_89 : ∀ a, a < 89 → pm_cP a := lt_s pm_cc_88 pm_c_88
set_option maxRecDepth 100000 in
theorem pm_c_89 : lw_tbl[687]? = some (Cond.code yX6_readPost cX6_readPost 4 (some .boolean)) := rfl
theorem pm_cc_90 : ∀ a, a < 90 → pm_cP a := lt_s pm_cc_89 pm_c_89
set_option maxRecDepth 100000 in
theorem pm_c_90 : lw_tbl[691]? = some (Cond.code yX6_readTheDays cX6_readTheDays 3 (some .boolean)) := rfl
theorem pm_cc_91 : ∀ a, a < 91 → pm_cP a := lt_s pm_cc_90 pm_c_90
set_option maxRecDepth 100000 in
theorem pm_c_91 : lw_tbl[695]? = some (Cond.code yX6_takeLand cX6_takeLand 2 (none)) := rfl
theorem pm_cc_92 : ∀ a, a < 92 → pm_cP a := lt_s pm_cc_91 pm_c_91
set_option maxRecDepth 100000 in
theorem pm_c_92 : lw_tbl[699]? = some (Cond.code yX6_ofField cX6_ofField 3 (some .int)) := rfl
theorem pm_cc_93 : ∀ a, a < 93 → pm_cP a := lt_s pm_cc_92 pm_c_92
set_option maxRecDepth 100000 in
theorem pm_c_93 : lw_tbl[703]? = some (Cond.code yX6_isField cX6_isField 2 (some .boolean)) := rfl
theorem pm_cc_94 : ∀ a, a < 94 → pm_cP a := lt_s pm_cc_93 pm_c_93
set_option maxRecDepth 100000 in
theorem pm_c_94 : lw_tbl[707]? = some (Cond.code yX6_ofPost cX6_ofPost 3 (some .int)) := rfl
theorem pm_cc_95 : ∀ a, a < 95 → pm_cP a := lt_s pm_cc_94 pm_c_94
set_option maxRecDepth 100000 in
theorem pm_c_95 : lw_tbl[711]? = some (Cond.code yX6_isPost cX6_isPost 2 (some .boolean)) := rfl
theorem pm_cc_96 : ∀ a, a < 96 → pm_cP a := lt_s pm_cc_95 pm_c_95
set_option maxRecDepth 100000 in
theorem pm_c_96 : lw_tbl[715]? = some (Cond.code yX6_lets cX6_lets 3 (some .int)) := rfl
theorem pm_cc_97 : ∀ a, a < 97 → pm_cP a := lt_s pm_cc_96 pm_c_96
set_option maxRecDepth 100000 in
theorem pm_c_97 : lw_tbl[719]? = some (Cond.code yX6_letsBy cX6_letsBy 4 (some .int)) := rfl
theorem pm_cc_98 : ∀ a, a < 98 → pm_cP a := lt_s pm_cc_97 pm_c_97
set_option maxRecDepth 100000 in
theorem pm_c_98 : lw_tbl[723]? = some (Cond.code yX6_limit cX6_limit 4 (some .int)) := rfl
theorem pm_cc_99 : ∀ a, a < 99 → pm_cP a := lt_s pm_cc_98 pm_c_98
set_option maxRecDepth 100000 in
theorem pm_c_99 : lw_tbl[727]? = some (Cond.code yX6_rain cX6_rain 4 (some .int)) := rfl
theorem pm_cc_100 : ∀ a, a < 100 → pm_cP a := lt_s pm_cc_99 pm_c_99
set_option maxRecDepth 100000 in
theorem pm_c_100 : lw_tbl[731]? = some (Cond.code yX6_isDay cX6_isDay 2 (some .boolean)) := rfl
theorem pm_cc_101 : ∀ a, a < 101 → pm_cP a := lt_s pm_cc_100 pm_c_100
set_option maxRecDepth 100000 in
theorem pm_c_101 : lw_tbl[735]? = some (Cond.code yX6_wet cX6_wet 3 (some .int)) := rfl
theorem pm_cc_102 : ∀ a, a < 102 → pm_cP a := lt_s pm_cc_101 pm_c_101
set_option maxRecDepth 100000 in
theorem pm_c_102 : lw_tbl[739]? = some (Cond.code yX6_goDays cX6_goDays 4 (none)) := rfl
theorem pm_cc_103 : ∀ a, a < 103 → pm_cP a := lt_s pm_cc_102 pm_c_102
set_option maxRecDepth 100000 in
theorem pm_c_103 : lw_tbl[743]? = some (Cond.code yX6_begin cX6_begin 2 (none)) := rfl
theorem pm_cc_104 : ∀ a, a < 104 → pm_cP a := lt_s pm_cc_103 pm_c_103
set_option maxRecDepth 100000 in
theorem pm_c_104 : lw_tbl[747]? = some (Cond.code yX6_goDay cX6_goDay 7 (none)) := rfl
theorem pm_cc_105 : ∀ a, a < 105 → pm_cP a := lt_s pm_cc_104 pm_c_104
set_option maxRecDepth 100000 in
theorem pm_c_105 : lw_tbl[751]? = some (Cond.code yX6_goesOn cX6_goesOn 4 (some .int)) := rfl
theorem pm_cc_106 : ∀ a, a < 106 → pm_cP a := lt_s pm_cc_105 pm_c_105
set_option maxRecDepth 100000 in
theorem pm_c_106 : lw_tbl[755]? = some (Cond.code yX6_falls cX6_falls 4 (none)) := rfl
theorem pm_cc_107 : ∀ a, a < 107 → pm_cP a := lt_s pm_cc_106 pm_c_106
set_option maxRecDepth 100000 in
theorem pm_c_107 : lw_tbl[759]? = some (Cond.code yX6_fell cX6_fell 3 (some .int)) := rfl
theorem pm_cc_108 : ∀ a, a < 108 → pm_cP a := lt_s pm_cc_107 pm_c_107
set_option maxRecDepth 100000 in
theorem pm_c_108 : lw_tbl[763]? = some (Cond.code yX6_flood cX6_flood 2 (some .int)) := rfl
theorem pm_cc_109 : ∀ a, a < 109 → pm_cP a := lt_s pm_cc_108 pm_c_108
set_option maxRecDepth 100000 in
theorem pm_c_109 : lw_tbl[767]? = some (Cond.code yX6_enough cX6_enough 1 (some .int)) := rfl
theorem pm_cc_110 : ∀ a, a < 110 → pm_cP a := lt_s pm_cc_109 pm_c_109
set_option maxRecDepth 100000 in
theorem pm_c_110 : lw_tbl[771]? = some (Cond.code yX6_enoughSet cX6_enoughSet 3 (some .int)) := rfl
theorem pm_cc_111 : ∀ a, a < 111 → pm_cP a := lt_s pm_cc_110 pm_c_110
set_option maxRecDepth 100000 in
theorem pm_c_111 : lw_tbl[775]? = some (Cond.code yX6_plan cX6_plan 9 (some .int)) := rfl
theorem pm_cc_112 : ∀ a, a < 112 → pm_cP a := lt_s pm_cc_111 pm_c_111
set_option maxRecDepth 100000 in
theorem pm_c_112 : lw_tbl[779]? = some (Cond.code yX6_posts cX6_posts 1 (some .int)) := rfl
theorem pm_cc_113 : ∀ a, a < 113 → pm_cP a := lt_s pm_cc_112 pm_c_112
set_option maxRecDepth 100000 in
theorem pm_c_113 : lw_tbl[783]? = some (Cond.code yX6_tellPlan cX6_tellPlan 3 (some .int)) := rfl
theorem pm_cc_114 : ∀ a, a < 114 → pm_cP a := lt_s pm_cc_113 pm_c_113
set_option maxRecDepth 100000 in
theorem pm_c_114 : lw_tbl[787]? = some (Cond.code yX6_papers cX6_papers 3 (some .int)) := rfl
theorem pm_cc_115 : ∀ a, a < 115 → pm_cP a := lt_s pm_cc_114 pm_c_114
set_option maxRecDepth 100000 in
theorem pm_c_115 : lw_tbl[790]? = some (Cond.code yX6_size cX6_size 3 (some .int)) := rfl
theorem pm_cc_116 : ∀ a, a < 116 → pm_cP a := lt_s pm_cc_115 pm_c_115
set_option maxRecDepth 100000 in
theorem pm_c_116 : lw_tbl[794]? = some (Cond.code yX6_most cX6_most 5 (some .int)) := rfl
theorem pm_cc_117 : ∀ a, a < 117 → pm_cP a := lt_s pm_cc_116 pm_c_116
set_option maxRecDepth 100000 in
theorem pm_c_117 : lw_tbl[798]? = some (Cond.code yX6_shut cX6_shut 4 (some .int)) := rfl
theorem pm_cc_118 : ∀ a, a < 118 → pm_cP a := lt_s pm_cc_117 pm_c_117
set_option maxRecDepth 100000 in
theorem pm_c_118 : lw_tbl[802]? = some (Cond.code yX6_doesFlood cX6_doesFlood 4 (some .boolean)) := rfl
theorem pm_cc_119 : ∀ a, a < 119 → pm_cP a := lt_s pm_cc_118 pm_c_118
set_option maxRecDepth 100000 in
theorem pm_c_119 : lw_tbl[806]? = some (Cond.code yX6_reading cX6_reading 4 (some .int)) := rfl
theorem pm_cc_120 : ∀ a, a < 120 → pm_cP a := lt_s pm_cc_119 pm_c_119
set_option maxRecDepth 100000 in
theorem pm_c_120 : lw_tbl[810]? = some (Cond.code yX6_back cX6_back 2 (some .int)) := rfl
theorem pm_cc_121 : ∀ a, a < 121 → pm_cP a := lt_s pm_cc_120 pm_c_120
set_option maxRecDepth 100000 in
theorem pm_c_121 : lw_tbl[814]? = some (Cond.code yX6_limits cX6_limits 5 (some .int)) := rfl
theorem pm_cc_122 : ∀ a, a < 122 → pm_cP a := lt_s pm_cc_121 pm_c_121
set_option maxRecDepth 100000 in
theorem pm_c_122 : lw_tbl[818]? = some (Cond.code yX6_areSo cX6_areSo 3 (some .boolean)) := rfl
theorem pm_cc_123 : ∀ a, a < 123 → pm_cP a := lt_s pm_cc_122 pm_c_122
set_option maxRecDepth 100000 in
theorem pm_c_123 : lw_tbl[822]? = some (Cond.code yX6_areSoBehind cX6_areSoBehind 3 (some .boolean)) := rfl
theorem pm_cc_124 : ∀ a, a < 124 → pm_cP a := lt_s pm_cc_123 pm_c_123
set_option maxRecDepth 100000 in
theorem pm_c_124 : lw_tbl[826]? = some (Cond.code yX6_kinds cX6_kinds 5 (some .int)) := rfl
theorem pm_cc_125 : ∀ a, a < 125 → pm_cP a := lt_s pm_cc_124 pm_c_124
set_option maxRecDepth 100000 in
theorem pm_c_125 : lw_tbl[830]? = some (Cond.code yX6_rains cX6_rains 5 (some .int)) := rfl
theorem pm_cc_126 : ∀ a, a < 126 → pm_cP a := lt_s pm_cc_125 pm_c_125
set_option maxRecDepth 100000 in
theorem pm_c_126 : lw_tbl[834]? = some (Cond.code yX6_odds cX6_odds 5 (some .long)) := rfl
theorem pm_cc_127 : ∀ a, a < 127 → pm_cP a := lt_s pm_cc_126 pm_c_126
set_option maxRecDepth 100000 in
theorem pm_c_127 : lw_tbl[838]? = some (Cond.code yX6_inLeastTerms cX6_inLeastTerms 11 (some .long)) := rfl
theorem pm_cc_128 : ∀ a, a < 128 → pm_cP a := lt_s pm_cc_127 pm_c_127
set_option maxRecDepth 100000 in
theorem pm_c_128 : lw_tbl[842]? = some (Cond.code yX6_sheet cX6_sheet 5 (some .int)) := rfl
theorem pm_cc_129 : ∀ a, a < 129 → pm_cP a := lt_s pm_cc_128 pm_c_128
set_option maxRecDepth 100000 in
theorem pm_c_129 : lw_tbl[846]? = some (Cond.code yX6_lose cX6_lose 3 (some .int)) := rfl
theorem pm_cc_130 : ∀ a, a < 130 → pm_cP a := lt_s pm_cc_129 pm_c_129
set_option maxRecDepth 100000 in
theorem pm_c_130 : lw_tbl[850]? = some (Cond.code yX6_put cX6_put 4 (some .int)) := rfl
theorem pm_cc_131 : ∀ a, a < 131 → pm_cP a := lt_s pm_cc_130 pm_c_130
set_option maxRecDepth 100000 in
theorem pm_c_131 : lw_tbl[854]? = some (Cond.code yX6_cell cX6_cell 4 (some .long)) := rfl
theorem pm_cc_132 : ∀ a, a < 132 → pm_cP a := lt_s pm_cc_131 pm_c_131
set_option maxRecDepth 100000 in
theorem pm_c_132 : lw_tbl[858]? = some (Cond.code yX6_lost cX6_lost 2 (some .long)) := rfl
theorem pm_cc_133 : ∀ a, a < 133 → pm_cP a := lt_s pm_cc_132 pm_c_132
set_option maxRecDepth 100000 in
theorem pm_c_133 : lw_tbl[862]? = some (Cond.code yX6_copy cX6_copy 10 (some .int)) := rfl
theorem pm_cc_134 : ∀ a, a < 134 → pm_cP a := lt_s pm_cc_133 pm_c_133
set_option maxRecDepth 100000 in
theorem pm_c_134 : lw_tbl[866]? = some (Cond.code yX6_tell cX6_tell 3 (some .int)) := rfl
theorem pm_cc_135 : ∀ a, a < 135 → pm_cP a := lt_s pm_cc_134 pm_c_134
set_option maxRecDepth 100000 in
theorem pm_c_135 : lw_tbl[870]? = some (Cond.code yX6_begins cX6_begins 2 (none)) := rfl
theorem pm_cc_136 : ∀ a, a < 136 → pm_cP a := lt_s pm_cc_135 pm_c_135
set_option maxRecDepth 100000 in
theorem pm_c_136 : lw_tbl[874]? = some (Cond.code yX6_stamp cX6_stamp 2 (some .int)) := rfl
theorem pm_cc_137 : ∀ a, a < 137 → pm_cP a := lt_s pm_cc_136 pm_c_136
set_option maxRecDepth 100000 in
theorem pm_c_137 : lw_tbl[878]? = some (Cond.code yX6_as cX6_as 3 (some .int)) := rfl
theorem pm_cc_138 : ∀ a, a < 138 → pm_cP a := lt_s pm_cc_137 pm_c_137
set_option maxRecDepth 100000 in
theorem pm_c_138 : lw_tbl[882]? = some (Cond.code yX6_trace cX6_trace 1 (some .int)) := rfl
theorem pm_cc_139 : ∀ a, a < 139 → pm_cP a := lt_s pm_cc_138 pm_c_138
set_option maxRecDepth 100000 in
theorem pm_c_139 : lw_tbl[886]? = some (Cond.code yX6_fault cX6_fault 1 (some .int)) := rfl
theorem pm_cc_140 : ∀ a, a < 140 → pm_cP a := lt_s pm_cc_139 pm_c_139
set_option maxRecDepth 100000 in
theorem pm_c_140 : lw_tbl[890]? = some (Cond.code yX6_many cX6_many 2 (some .int)) := rfl
theorem pm_cc_141 : ∀ a, a < 141 → pm_cP a := lt_s pm_cc_140 pm_c_140
set_option maxRecDepth 100000 in
theorem pm_c_141 : lw_tbl[416]? = some (Cond.code yJ6_bitCount_0f7a4 cJ6_bitCount_0f7a4 1 (some .int)) := rfl
theorem pm_cc_142 : ∀ a, a < 142 → pm_cP a := lt_s pm_cc_141 pm_c_141
set_option maxRecDepth 100000 in
theorem pm_c_142 : lw_tbl[91]? = some (Cond.code yJ7_fill_53178 cJ7_fill_53178 4 (none)) := rfl
theorem pm_cc_143 : ∀ a, a < 143 → pm_cP a := lt_s pm_cc_142 pm_c_142
theorem pm_ck1 : (List.range 143).all (fun y => decide (lw_tbl[pm_ji.getD y 0]? = some (Cond.initialized (pm_nm y).cls))) = true := by decide +kernel
theorem pm_ck2 : (List.range 143).all (fun y => (if pm_stat.contains y then decide (lw_tbl[pm_jm.getD y 0]? = some (Cond.static (pm_nm y))) else decide (lw_tbl[pm_jm.getD y 0]? = some (Cond.instanceMethod (pm_nm y))))) = true := by decide +kernel
theorem pm_ck3 : (List.range 143).all (fun y => pm_stat.contains y || decide (lw_tbl[pm_js.getD y 0]? = some (Cond.selects (pm_nm y).cls (pm_nm y) (pm_nm y)))) = true := by decide +kernel
theorem pm_ck4 : (List.range 143).all (fun y => decide ((pm_nm y).cls ≠ "java/lang/invoke/MethodHandle") && decide ((pm_nm y).cls ≠ "java/lang/invoke/VarHandle") && decide (pm_ml y ≤ 20)) = true := by decide +kernel
theorem pm_ck5 : (List.range 143).all (fun y => plainName (pm_nm y).cls) = true := by decide +kernel
theorem pm_okm_ok : pm_okm := by
  intro y hy
  have hm := List.mem_range.mpr hy
  have h0 := pm_cc_143 y hy
  have a1 := List.all_eq_true.mp pm_ck1 y hm
  have a2 := List.all_eq_true.mp pm_ck2 y hm
  have a3 := List.all_eq_true.mp pm_ck3 y hm
  have a4 := List.all_eq_true.mp pm_ck4 y hm
  have a5 := List.all_eq_true.mp pm_ck5 y hm
  simp only [Bool.and_eq_true, decide_eq_true_eq] at a1 a4
  refine ⟨pm_gw_of (List.mem_of_getElem? h0) rfl, pm_gw_of (List.mem_of_getElem? a1) rfl, fun hs => ?_, fun hs => ?_, a4.1, a5, a4.2⟩
  · rw [if_pos hs] at a2
    simp only [decide_eq_true_eq] at a2
    exact pm_gw_of (List.mem_of_getElem? a2) rfl
  · rw [if_neg (by rw [hs]; exact fun h => by cases h)] at a2
    rw [hs] at a3
    simp only [Bool.false_or, decide_eq_true_eq] at a2 a3
    exact ⟨pm_gw_of (List.mem_of_getElem? a2) rfl, pm_gw_of (List.mem_of_getElem? a3) rfl⟩
theorem pm_mt : (Cond.static Lib.Math.max.name) ∈ pm_gw ∧ (Cond.initialized "java/lang/Math") ∈ pm_gw ∧ (Cond.code Lib.Math.max.name Lib.Math.max.code 2 (some .int)) ∈ pm_gw ∧ (Cond.static Lib.Math.min.name) ∈ pm_gw ∧ (Cond.code Lib.Math.min.name Lib.Math.min.code 2 (some .int)) ∈ pm_gw := ⟨pm_gw_of (List.mem_of_getElem? (i := 283) (by decide +kernel)) rfl, pm_gw_of (List.mem_of_getElem? (i := 71) (by decide +kernel)) rfl, pm_gw_of (List.mem_of_getElem? (i := 284) (by decide +kernel)) rfl, pm_gw_of (List.mem_of_getElem? (i := 314) (by decide +kernel)) rfl, pm_gw_of (List.mem_of_getElem? (i := 315) (by decide +kernel)) rfl⟩
theorem pm_ac1 : Cond.native arraycopyName ∈ pm_gw := pm_gw_of (List.mem_of_getElem? (i := 248) (by decide +kernel)) rfl
theorem pm_ac2 : Cond.static arraycopyName ∈ pm_gw := pm_gw_of (List.mem_of_getElem? (i := 247) (by decide +kernel)) rfl
theorem pm_ac3 : Cond.initialized "java/lang/System" ∈ pm_gw := pm_gw_of (List.mem_of_getElem? (i := 69) (by decide +kernel)) rfl
theorem pm_kw_0 : (u_ws RX0 TX0 7).all (fun w => decide (w ∈ lw_tbl) && goodWord w) = true := by decide +kernel
theorem pm_kw_1 : (u_ws RX1 TX1 4).all (fun w => decide (w ∈ lw_tbl) && goodWord w) = true := by decide +kernel
theorem pm_kw_2 : (u_ws RX2 TX2 3).all (fun w => decide (w ∈ lw_tbl) && goodWord w) = true := by decide +kernel
theorem pm_kw_3 : (u_ws RX4 TX4 6).all (fun w => decide (w ∈ lw_tbl) && goodWord w) = true := by decide +kernel
theorem pm_kw_4 : (u_ws RX5 TX5 7).all (fun w => decide (w ∈ lw_tbl) && goodWord w) = true := by decide +kernel
theorem pm_kw_5 : (u_ws RX6 TX6 30).all (fun w => decide (w ∈ lw_tbl) && goodWord w) = true := by decide +kernel
theorem pm_kw {C : String} {T : u_T} {N : Nat} (h : (u_ws C T N).all (fun w => decide (w ∈ lw_tbl) && goodWord w) = true) : ∀ w ∈ u_ws C T N, w ∈ pm_gw := by
  intro w hw
  have h1 := List.all_eq_true.mp h w hw
  simp only [Bool.and_eq_true, decide_eq_true_eq] at h1
  exact pm_gw_of h1.1 h1.2
theorem pm_okc_ok : pm_okc := by
  intro ci C T N h
  match ci, h with
  | 0, h => cases h; exact ⟨pm_kw pm_kw_0, ⟨tyX0, tyX0_ok⟩, nmX0⟩
  | 1, h => cases h; exact ⟨pm_kw pm_kw_1, ⟨tyX1, tyX1_ok⟩, nmX1⟩
  | 2, h => cases h; exact ⟨pm_kw pm_kw_2, ⟨tyX2, tyX2_ok⟩, nmX2⟩
  | 3, h => cases h; exact ⟨pm_kw pm_kw_3, ⟨tyX4, tyX4_ok⟩, nmX4⟩
  | 4, h => cases h; exact ⟨pm_kw pm_kw_4, ⟨tyX5, tyX5_ok⟩, nmX5⟩
  | 5, h => cases h; exact ⟨pm_kw pm_kw_5, ⟨tyX6, tyX6_ok⟩, nmX6⟩
  | ci + 6, h => simp [pm_cls] at h
end
section
/-! Each row of each method. -/
theorem pm_rr_0 : ∀ a, a < 0 → (pm_rwf a).all (pm_okr a) = true := lt_0
theorem pm_r_0 : (pm_rwf 0).all (pm_okr 0) = true := by decide +kernel
theorem pm_rr_1 : ∀ a, a < 1 → (pm_rwf a).all (pm_okr a) = true := lt_s pm_rr_0 pm_r_0
theorem pm_r_1 : (pm_rwf 1).all (pm_okr 1) = true := by decide +kernel
theorem pm_rr_2 : ∀ a, a < 2 → (pm_rwf a).all (pm_okr a) = true := lt_s pm_rr_1 pm_r_1
theorem pm_r_2 : (pm_rwf 2).all (pm_okr 2) = true := by decide +kernel
theorem pm_rr_3 : ∀ a, a < 3 → (pm_rwf a).all (pm_okr a) = true := lt_s pm_rr_2 pm_r_2
theorem pm_r_3 : (pm_rwf 3).all (pm_okr 3) = true := by decide +kernel
theorem pm_rr_4 : ∀ a, a < 4 → (pm_rwf a).all (pm_okr a) = true := lt_s pm_rr_3 pm_r_3
theorem pm_r_4 : (pm_rwf 4).all (pm_okr 4) = true := by decide +kernel
theorem pm_rr_5 : ∀ a, a < 5 → (pm_rwf a).all (pm_okr a) = true := lt_s pm_rr_4 pm_r_4
theorem pm_r_5 : (pm_rwf 5).all (pm_okr 5) = true := by decide +kernel
theorem pm_rr_6 : ∀ a, a < 6 → (pm_rwf a).all (pm_okr a) = true := lt_s pm_rr_5 pm_r_5
theorem pm_r_6 : (pm_rwf 6).all (pm_okr 6) = true := by decide +kernel
theorem pm_rr_7 : ∀ a, a < 7 → (pm_rwf a).all (pm_okr a) = true := lt_s pm_rr_6 pm_r_6
theorem pm_r_7 : (pm_rwf 7).all (pm_okr 7) = true := by decide +kernel
theorem pm_rr_8 : ∀ a, a < 8 → (pm_rwf a).all (pm_okr a) = true := lt_s pm_rr_7 pm_r_7
theorem pm_r_8 : (pm_rwf 8).all (pm_okr 8) = true := by decide +kernel
theorem pm_rr_9 : ∀ a, a < 9 → (pm_rwf a).all (pm_okr a) = true := lt_s pm_rr_8 pm_r_8
theorem pm_r_9 : (pm_rwf 9).all (pm_okr 9) = true := by decide +kernel
theorem pm_rr_10 : ∀ a, a < 10 → (pm_rwf a).all (pm_okr a) = true := lt_s pm_rr_9 pm_r_9
theorem pm_r_10 : (pm_rwf 10).all (pm_okr 10) = true := by decide +kernel
theorem pm_rr_11 : ∀ a, a < 11 → (pm_rwf a).all (pm_okr a) = true := lt_s pm_rr_10 pm_r_10
theorem pm_r_11 : (pm_rwf 11).all (pm_okr 11) = true := by decide +kernel
theorem pm_rr_12 : ∀ a, a < 12 → (pm_rwf a).all (pm_okr a) = true := lt_s pm_rr_11 pm_r_11
theorem pm_r_12 : (pm_rwf 12).all (pm_okr 12) = true := by decide +kernel
theorem pm_rr_13 : ∀ a, a < 13 → (pm_rwf a).all (pm_okr a) = true := lt_s pm_rr_12 pm_r_12
theorem pm_r_13 : (pm_rwf 13).all (pm_okr 13) = true := by decide +kernel
theorem pm_rr_14 : ∀ a, a < 14 → (pm_rwf a).all (pm_okr a) = true := lt_s pm_rr_13 pm_r_13
theorem pm_r_14 : (pm_rwf 14).all (pm_okr 14) = true := by decide +kernel
theorem pm_rr_15 : ∀ a, a < 15 → (pm_rwf a).all (pm_okr a) = true := lt_s pm_rr_14 pm_r_14
theorem pm_r_15 : (pm_rwf 15).all (pm_okr 15) = true := by decide +kernel
theorem pm_rr_16 : ∀ a, a < 16 → (pm_rwf a).all (pm_okr a) = true := lt_s pm_rr_15 pm_r_15
theorem pm_r_16 : (pm_rwf 16).all (pm_okr 16) = true := by decide +kernel
theorem pm_rr_17 : ∀ a, a < 17 → (pm_rwf a).all (pm_okr a) = true := lt_s pm_rr_16 pm_r_16
theorem pm_r_17 : (pm_rwf 17).all (pm_okr 17) = true := by decide +kernel
theorem pm_rr_18 : ∀ a, a < 18 → (pm_rwf a).all (pm_okr a) = true := lt_s pm_rr_17 pm_r_17
theorem pm_r_18 : (pm_rwf 18).all (pm_okr 18) = true := by decide +kernel
theorem pm_rr_19 : ∀ a, a < 19 → (pm_rwf a).all (pm_okr a) = true := lt_s pm_rr_18 pm_r_18
theorem pm_r_19 : (pm_rwf 19).all (pm_okr 19) = true := by decide +kernel
theorem pm_rr_20 : ∀ a, a < 20 → (pm_rwf a).all (pm_okr a) = true := lt_s pm_rr_19 pm_r_19
theorem pm_r_20 : (pm_rwf 20).all (pm_okr 20) = true := by decide +kernel
theorem pm_rr_21 : ∀ a, a < 21 → (pm_rwf a).all (pm_okr a) = true := lt_s pm_rr_20 pm_r_20
theorem pm_r_21 : (pm_rwf 21).all (pm_okr 21) = true := by decide +kernel
theorem pm_rr_22 : ∀ a, a < 22 → (pm_rwf a).all (pm_okr a) = true := lt_s pm_rr_21 pm_r_21
theorem pm_r_22 : (pm_rwf 22).all (pm_okr 22) = true := by decide +kernel
theorem pm_rr_23 : ∀ a, a < 23 → (pm_rwf a).all (pm_okr a) = true := lt_s pm_rr_22 pm_r_22
theorem pm_r_23 : (pm_rwf 23).all (pm_okr 23) = true := by decide +kernel
theorem pm_rr_24 : ∀ a, a < 24 → (pm_rwf a).all (pm_okr a) = true := lt_s pm_rr_23 pm_r_23
theorem pm_r_24 : (pm_rwf 24).all (pm_okr 24) = true := by decide +kernel
theorem pm_rr_25 : ∀ a, a < 25 → (pm_rwf a).all (pm_okr a) = true := lt_s pm_rr_24 pm_r_24
theorem pm_r_25 : (pm_rwf 25).all (pm_okr 25) = true := by decide +kernel
theorem pm_rr_26 : ∀ a, a < 26 → (pm_rwf a).all (pm_okr a) = true := lt_s pm_rr_25 pm_r_25
theorem pm_r_26 : (pm_rwf 26).all (pm_okr 26) = true := by decide +kernel
theorem pm_rr_27 : ∀ a, a < 27 → (pm_rwf a).all (pm_okr a) = true := lt_s pm_rr_26 pm_r_26
theorem pm_r_27 : (pm_rwf 27).all (pm_okr 27) = true := by decide +kernel
theorem pm_rr_28 : ∀ a, a < 28 → (pm_rwf a).all (pm_okr a) = true := lt_s pm_rr_27 pm_r_27
theorem pm_r_28 : (pm_rwf 28).all (pm_okr 28) = true := by decide +kernel
theorem pm_rr_29 : ∀ a, a < 29 → (pm_rwf a).all (pm_okr a) = true := lt_s pm_rr_28 pm_r_28
theorem pm_r_29 : (pm_rwf 29).all (pm_okr 29) = true := by decide +kernel
theorem pm_rr_30 : ∀ a, a < 30 → (pm_rwf a).all (pm_okr a) = true := lt_s pm_rr_29 pm_r_29
theorem pm_r_30 : (pm_rwf 30).all (pm_okr 30) = true := by decide +kernel
theorem pm_rr_31 : ∀ a, a < 31 → (pm_rwf a).all (pm_okr a) = true := lt_s pm_rr_30 pm_r_30
theorem pm_r_31 : (pm_rwf 31).all (pm_okr 31) = true := by decide +kernel
theorem pm_rr_32 : ∀ a, a < 32 → (pm_rwf a).all (pm_okr a) = true := lt_s pm_rr_31 pm_r_31
theorem pm_r_32 : (pm_rwf 32).all (pm_okr 32) = true := by decide +kernel
theorem pm_rr_33 : ∀ a, a < 33 → (pm_rwf a).all (pm_okr a) = true := lt_s pm_rr_32 pm_r_32
theorem pm_r_33 : (pm_rwf 33).all (pm_okr 33) = true := by decide +kernel
theorem pm_rr_34 : ∀ a, a < 34 → (pm_rwf a).all (pm_okr a) = true := lt_s pm_rr_33 pm_r_33
theorem pm_r_34 : (pm_rwf 34).all (pm_okr 34) = true := by decide +kernel
theorem pm_rr_35 : ∀ a, a < 35 → (pm_rwf a).all (pm_okr a) = true := lt_s pm_rr_34 pm_r_34
theorem pm_r_35 : (pm_rwf 35).all (pm_okr 35) = true := by decide +kernel
theorem pm_rr_36 : ∀ a, a < 36 → (pm_rwf a).all (pm_okr a) = true := lt_s pm_rr_35 pm_r_35
theorem pm_r_36 : (pm_rwf 36).all (pm_okr 36) = true := by decide +kernel
theorem pm_rr_37 : ∀ a, a < 37 → (pm_rwf a).all (pm_okr a) = true := lt_s pm_rr_36 pm_r_36
theorem pm_r_37 : (pm_rwf 37).all (pm_okr 37) = true := by decide +kernel
theorem pm_rr_38 : ∀ a, a < 38 → (pm_rwf a).all (pm_okr a) = true := lt_s pm_rr_37 pm_r_37
theorem pm_r_38 : (pm_rwf 38).all (pm_okr 38) = true := by decide +kernel
theorem pm_rr_39 : ∀ a, a < 39 → (pm_rwf a).all (pm_okr a) = true := lt_s pm_rr_38 pm_r_38
theorem pm_r_39 : (pm_rwf 39).all (pm_okr 39) = true := by decide +kernel
theorem pm_rr_40 : ∀ a, a < 40 → (pm_rwf a).all (pm_okr a) = true := lt_s pm_rr_39 pm_r_39
theorem pm_r_40 : (pm_rwf 40).all (pm_okr 40) = true := by decide +kernel
theorem pm_rr_41 : ∀ a, a < 41 → (pm_rwf a).all (pm_okr a) = true := lt_s pm_rr_40 pm_r_40
theorem pm_r_41 : (pm_rwf 41).all (pm_okr 41) = true := by decide +kernel
theorem pm_rr_42 : ∀ a, a < 42 → (pm_rwf a).all (pm_okr a) = true := lt_s pm_rr_41 pm_r_41
theorem pm_r_42 : (pm_rwf 42).all (pm_okr 42) = true := by decide +kernel
theorem pm_rr_43 : ∀ a, a < 43 → (pm_rwf a).all (pm_okr a) = true := lt_s pm_rr_42 pm_r_42
theorem pm_r_43 : (pm_rwf 43).all (pm_okr 43) = true := by decide +kernel
theorem pm_rr_44 : ∀ a, a < 44 → (pm_rwf a).all (pm_okr a) = true := lt_s pm_rr_43 pm_r_43
theorem pm_r_44 : (pm_rwf 44).all (pm_okr 44) = true := by decide +kernel
theorem pm_rr_45 : ∀ a, a < 45 → (pm_rwf a).all (pm_okr a) = true := lt_s pm_rr_44 pm_r_44
theorem pm_r_45 : (pm_rwf 45).all (pm_okr 45) = true := by decide +kernel
theorem pm_rr_46 : ∀ a, a < 46 → (pm_rwf a).all (pm_okr a) = true := lt_s pm_rr_45 pm_r_45
theorem pm_r_46 : (pm_rwf 46).all (pm_okr 46) = true := by decide +kernel
theorem pm_rr_47 : ∀ a, a < 47 → (pm_rwf a).all (pm_okr a) = true := lt_s pm_rr_46 pm_r_46
theorem pm_r_47 : (pm_rwf 47).all (pm_okr 47) = true := by decide +kernel
theorem pm_rr_48 : ∀ a, a < 48 → (pm_rwf a).all (pm_okr a) = true := lt_s pm_rr_47 pm_r_47
theorem pm_r_48 : (pm_rwf 48).all (pm_okr 48) = true := by decide +kernel
theorem pm_rr_49 : ∀ a, a < 49 → (pm_rwf a).all (pm_okr a) = true := lt_s pm_rr_48 pm_r_48
theorem pm_r_49 : (pm_rwf 49).all (pm_okr 49) = true := by decide +kernel
theorem pm_rr_50 : ∀ a, a < 50 → (pm_rwf a).all (pm_okr a) = true := lt_s pm_rr_49 pm_r_49
theorem pm_r_50 : (pm_rwf 50).all (pm_okr 50) = true := by decide +kernel
theorem pm_rr_51 : ∀ a, a < 51 → (pm_rwf a).all (pm_okr a) = true := lt_s pm_rr_50 pm_r_50
theorem pm_r_51 : (pm_rwf 51).all (pm_okr 51) = true := by decide +kernel
theorem pm_rr_52 : ∀ a, a < 52 → (pm_rwf a).all (pm_okr a) = true := lt_s pm_rr_51 pm_r_51
theorem pm_r_52 : (pm_rwf 52).all (pm_okr 52) = true := by decide +kernel
theorem pm_rr_53 : ∀ a, a < 53 → (pm_rwf a).all (pm_okr a) = true := lt_s pm_rr_52 pm_r_52
theorem pm_r_53 : (pm_rwf 53).all (pm_okr 53) = true := by decide +kernel
theorem pm_rr_54 : ∀ a, a < 54 → (pm_rwf a).all (pm_okr a) = true := lt_s pm_rr_53 pm_r_53
theorem pm_r_54 : (pm_rwf 54).all (pm_okr 54) = true := by decide +kernel
theorem pm_rr_55 : ∀ a, a < 55 → (pm_rwf a).all (pm_okr a) = true := lt_s pm_rr_54 pm_r_54
theorem pm_r_55 : (pm_rwf 55).all (pm_okr 55) = true := by decide +kernel
theorem pm_rr_56 : ∀ a, a < 56 → (pm_rwf a).all (pm_okr a) = true := lt_s pm_rr_55 pm_r_55
theorem pm_r_56 : (pm_rwf 56).all (pm_okr 56) = true := by decide +kernel
theorem pm_rr_57 : ∀ a, a < 57 → (pm_rwf a).all (pm_okr a) = true := lt_s pm_rr_56 pm_r_56
theorem pm_r_57 : (pm_rwf 57).all (pm_okr 57) = true := by decide +kernel
theorem pm_rr_58 : ∀ a, a < 58 → (pm_rwf a).all (pm_okr a) = true := lt_s pm_rr_57 pm_r_57
theorem pm_r_58 : (pm_rwf 58).all (pm_okr 58) = true := by decide +kernel
theorem pm_rr_59 : ∀ a, a < 59 → (pm_rwf a).all (pm_okr a) = true := lt_s pm_rr_58 pm_r_58
theorem pm_r_59 : (pm_rwf 59).all (pm_okr 59) = true := by decide +kernel
theorem pm_rr_60 : ∀ a, a < 60 → (pm_rwf a).all (pm_okr a) = true := lt_s pm_rr_59 pm_r_59
theorem pm_r_60 : (pm_rwf 60).all (pm_okr 60) = true := by decide +kernel
theorem pm_rr_61 : ∀ a, a < 61 → (pm_rwf a).all (pm_okr a) = true := lt_s pm_rr_60 pm_r_60
theorem pm_r_61 : (pm_rwf 61).all (pm_okr 61) = true := by decide +kernel
theorem pm_rr_62 : ∀ a, a < 62 → (pm_rwf a).all (pm_okr a) = true := lt_s pm_rr_61 pm_r_61
theorem pm_r_62 : (pm_rwf 62).all (pm_okr 62) = true := by decide +kernel
theorem pm_rr_63 : ∀ a, a < 63 → (pm_rwf a).all (pm_okr a) = true := lt_s pm_rr_62 pm_r_62
theorem pm_r_63 : (pm_rwf 63).all (pm_okr 63) = true := by decide +kernel
theorem pm_rr_64 : ∀ a, a < 64 → (pm_rwf a).all (pm_okr a) = true := lt_s pm_rr_63 pm_r_63
theorem pm_r_64 : (pm_rwf 64).all (pm_okr 64) = true := by decide +kernel
theorem pm_rr_65 : ∀ a, a < 65 → (pm_rwf a).all (pm_okr a) = true := lt_s pm_rr_64 pm_r_64
theorem pm_r_65 : (pm_rwf 65).all (pm_okr 65) = true := by decide +kernel
theorem pm_rr_66 : ∀ a, a < 66 → (pm_rwf a).all (pm_okr a) = true := lt_s pm_rr_65 pm_r_65
theorem pm_r_66 : (pm_rwf 66).all (pm_okr 66) = true := by decide +kernel
theorem pm_rr_67 : ∀ a, a < 67 → (pm_rwf a).all (pm_okr a) = true := lt_s pm_rr_66 pm_r_66
theorem pm_r_67 : (pm_rwf 67).all (pm_okr 67) = true := by decide +kernel
theorem pm_rr_68 : ∀ a, a < 68 → (pm_rwf a).all (pm_okr a) = true := lt_s pm_rr_67 pm_r_67
theorem pm_r_68 : (pm_rwf 68).all (pm_okr 68) = true := by decide +kernel
theorem pm_rr_69 : ∀ a, a < 69 → (pm_rwf a).all (pm_okr a) = true := lt_s pm_rr_68 pm_r_68
theorem pm_r_69 : (pm_rwf 69).all (pm_okr 69) = true := by decide +kernel
theorem pm_rr_70 : ∀ a, a < 70 → (pm_rwf a).all (pm_okr a) = true := lt_s pm_rr_69 pm_r_69
theorem pm_r_70 : (pm_rwf 70).all (pm_okr 70) = true := by decide +kernel
theorem pm_rr_71 : ∀ a, a < 71 → (pm_rwf a).all (pm_okr a) = true := lt_s pm_rr_70 pm_r_70
theorem pm_r_71 : (pm_rwf 71).all (pm_okr 71) = true := by decide +kernel
theorem pm_rr_72 : ∀ a, a < 72 → (pm_rwf a).all (pm_okr a) = true := lt_s pm_rr_71 pm_r_71
theorem pm_r_72 : (pm_rwf 72).all (pm_okr 72) = true := by decide +kernel
theorem pm_rr_73 : ∀ a, a < 73 → (pm_rwf a).all (pm_okr a) = true := lt_s pm_rr_72 pm_r_72
theorem pm_r_73 : (pm_rwf 73).all (pm_okr 73) = true := by decide +kernel
theorem pm_rr_74 : ∀ a, a < 74 → (pm_rwf a).all (pm_okr a) = true := lt_s pm_rr_73 pm_r_73
theorem pm_r_74 : (pm_rwf 74).all (pm_okr 74) = true := by decide +kernel
theorem pm_rr_75 : ∀ a, a < 75 → (pm_rwf a).all (pm_okr a) = true := lt_s pm_rr_74 pm_r_74
theorem pm_r_75 : (pm_rwf 75).all (pm_okr 75) = true := by decide +kernel
theorem pm_rr_76 : ∀ a, a < 76 → (pm_rwf a).all (pm_okr a) = true := lt_s pm_rr_75 pm_r_75
theorem pm_r_76 : (pm_rwf 76).all (pm_okr 76) = true := by decide +kernel
theorem pm_rr_77 : ∀ a, a < 77 → (pm_rwf a).all (pm_okr a) = true := lt_s pm_rr_76 pm_r_76
theorem pm_r_77 : (pm_rwf 77).all (pm_okr 77) = true := by decide +kernel
theorem pm_rr_78 : ∀ a, a < 78 → (pm_rwf a).all (pm_okr a) = true := lt_s pm_rr_77 pm_r_77
theorem pm_r_78 : (pm_rwf 78).all (pm_okr 78) = true := by decide +kernel
theorem pm_rr_79 : ∀ a, a < 79 → (pm_rwf a).all (pm_okr a) = true := lt_s pm_rr_78 pm_r_78
theorem pm_r_79 : (pm_rwf 79).all (pm_okr 79) = true := by decide +kernel
theorem pm_rr_80 : ∀ a, a < 80 → (pm_rwf a).all (pm_okr a) = true := lt_s pm_rr_79 pm_r_79
theorem pm_r_80 : (pm_rwf 80).all (pm_okr 80) = true := by decide +kernel
theorem pm_rr_81 : ∀ a, a < 81 → (pm_rwf a).all (pm_okr a) = true := lt_s pm_rr_80 pm_r_80
theorem pm_r_81 : (pm_rwf 81).all (pm_okr 81) = true := by decide +kernel
theorem pm_rr_82 : ∀ a, a < 82 → (pm_rwf a).all (pm_okr a) = true := lt_s pm_rr_81 pm_r_81
theorem pm_r_82 : (pm_rwf 82).all (pm_okr 82) = true := by decide +kernel
theorem pm_rr_83 : ∀ a, a < 83 → (pm_rwf a).all (pm_okr a) = true := lt_s pm_rr_82 pm_r_82
theorem pm_r_83 : (pm_rwf 83).all (pm_okr 83) = true := by decide +kernel
theorem pm_rr_84 : ∀ a, a < 84 → (pm_rwf a).all (pm_okr a) = true := lt_s pm_rr_83 pm_r_83
theorem pm_r_84 : (pm_rwf 84).all (pm_okr 84) = true := by decide +kernel
theorem pm_rr_85 : ∀ a, a < 85 → (pm_rwf a).all (pm_okr a) = true := lt_s pm_rr_84 pm_r_84
theorem pm_r_85 : (pm_rwf 85).all (pm_okr 85) = true := by decide +kernel
theorem pm_rr_86 : ∀ a, a < 86 → (pm_rwf a).all (pm_okr a) = true := lt_s pm_rr_85 pm_r_85
theorem pm_r_86 : (pm_rwf 86).all (pm_okr 86) = true := by decide +kernel
theorem pm_rr_87 : ∀ a, a < 87 → (pm_rwf a).all (pm_okr a) = true := lt_s pm_rr_86 pm_r_86
theorem pm_r_87 : (pm_rwf 87).all (pm_okr 87) = true := by decide +kernel
theorem pm_rr_88 : ∀ a, a < 88 → (pm_rwf a).all (pm_okr a) = true := lt_s pm_rr_87 pm_r_87
theorem pm_r_88 : (pm_rwf 88).all (pm_okr 88) = true := by decide +kernel
theorem pm_rr_89 : ∀ a, a < 89 → (pm_rwf a).all (pm_okr a) = true := lt_s pm_rr_88 pm_r_88
theorem pm_r_89 : (pm_rwf 89).all (pm_okr 89) = true := by decide +kernel
theorem pm_rr_90 : ∀ a, a < 90 → (pm_rwf a).all (pm_okr a) = true := lt_s pm_rr_89 pm_r_89
theorem pm_r_90 : (pm_rwf 90).all (pm_okr 90) = true := by decide +kernel
theorem pm_rr_91 : ∀ a, a < 91 → (pm_rwf a).all (pm_okr a) = true := lt_s pm_rr_90 pm_r_90
theorem pm_r_91 : (pm_rwf 91).all (pm_okr 91) = true := by decide +kernel
theorem pm_rr_92 : ∀ a, a < 92 → (pm_rwf a).all (pm_okr a) = true := lt_s pm_rr_91 pm_r_91
theorem pm_r_92 : (pm_rwf 92).all (pm_okr 92) = true := by decide +kernel
theorem pm_rr_93 : ∀ a, a < 93 → (pm_rwf a).all (pm_okr a) = true := lt_s pm_rr_92 pm_r_92
theorem pm_r_93 : (pm_rwf 93).all (pm_okr 93) = true := by decide +kernel
theorem pm_rr_94 : ∀ a, a < 94 → (pm_rwf a).all (pm_okr a) = true := lt_s pm_rr_93 pm_r_93
theorem pm_r_94 : (pm_rwf 94).all (pm_okr 94) = true := by decide +kernel
theorem pm_rr_95 : ∀ a, a < 95 → (pm_rwf a).all (pm_okr a) = true := lt_s pm_rr_94 pm_r_94
theorem pm_r_95 : (pm_rwf 95).all (pm_okr 95) = true := by decide +kernel
theorem pm_rr_96 : ∀ a, a < 96 → (pm_rwf a).all (pm_okr a) = true := lt_s pm_rr_95 pm_r_95
theorem pm_r_96 : (pm_rwf 96).all (pm_okr 96) = true := by decide +kernel
theorem pm_rr_97 : ∀ a, a < 97 → (pm_rwf a).all (pm_okr a) = true := lt_s pm_rr_96 pm_r_96
theorem pm_r_97 : (pm_rwf 97).all (pm_okr 97) = true := by decide +kernel
theorem pm_rr_98 : ∀ a, a < 98 → (pm_rwf a).all (pm_okr a) = true := lt_s pm_rr_97 pm_r_97
theorem pm_r_98 : (pm_rwf 98).all (pm_okr 98) = true := by decide +kernel
theorem pm_rr_99 : ∀ a, a < 99 → (pm_rwf a).all (pm_okr a) = true := lt_s pm_rr_98 pm_r_98
theorem pm_r_99 : (pm_rwf 99).all (pm_okr 99) = true := by decide +kernel
theorem pm_rr_100 : ∀ a, a < 100 → (pm_rwf a).all (pm_okr a) = true := lt_s pm_rr_99 pm_r_99
theorem pm_r_100 : (pm_rwf 100).all (pm_okr 100) = true := by decide +kernel
theorem pm_rr_101 : ∀ a, a < 101 → (pm_rwf a).all (pm_okr a) = true := lt_s pm_rr_100 pm_r_100
theorem pm_r_101 : (pm_rwf 101).all (pm_okr 101) = true := by decide +kernel
theorem pm_rr_102 : ∀ a, a < 102 → (pm_rwf a).all (pm_okr a) = true := lt_s pm_rr_101 pm_r_101
theorem pm_r_102 : (pm_rwf 102).all (pm_okr 102) = true := by decide +kernel
theorem pm_rr_103 : ∀ a, a < 103 → (pm_rwf a).all (pm_okr a) = true := lt_s pm_rr_102 pm_r_102
theorem pm_r_103 : (pm_rwf 103).all (pm_okr 103) = true := by decide +kernel
theorem pm_rr_104 : ∀ a, a < 104 → (pm_rwf a).all (pm_okr a) = true := lt_s pm_rr_103 pm_r_103
theorem pm_r_104 : (pm_rwf 104).all (pm_okr 104) = true := by decide +kernel
theorem pm_rr_105 : ∀ a, a < 105 → (pm_rwf a).all (pm_okr a) = true := lt_s pm_rr_104 pm_r_104
theorem pm_r_105 : (pm_rwf 105).all (pm_okr 105) = true := by decide +kernel
theorem pm_rr_106 : ∀ a, a < 106 → (pm_rwf a).all (pm_okr a) = true := lt_s pm_rr_105 pm_r_105
theorem pm_r_106 : (pm_rwf 106).all (pm_okr 106) = true := by decide +kernel
theorem pm_rr_107 : ∀ a, a < 107 → (pm_rwf a).all (pm_okr a) = true := lt_s pm_rr_106 pm_r_106
theorem pm_r_107 : (pm_rwf 107).all (pm_okr 107) = true := by decide +kernel
theorem pm_rr_108 : ∀ a, a < 108 → (pm_rwf a).all (pm_okr a) = true := lt_s pm_rr_107 pm_r_107
theorem pm_r_108 : (pm_rwf 108).all (pm_okr 108) = true := by decide +kernel
theorem pm_rr_109 : ∀ a, a < 109 → (pm_rwf a).all (pm_okr a) = true := lt_s pm_rr_108 pm_r_108
theorem pm_r_109 : (pm_rwf 109).all (pm_okr 109) = true := by decide +kernel
theorem pm_rr_110 : ∀ a, a < 110 → (pm_rwf a).all (pm_okr a) = true := lt_s pm_rr_109 pm_r_109
theorem pm_r_110 : (pm_rwf 110).all (pm_okr 110) = true := by decide +kernel
theorem pm_rr_111 : ∀ a, a < 111 → (pm_rwf a).all (pm_okr a) = true := lt_s pm_rr_110 pm_r_110
theorem pm_r_111 : (pm_rwf 111).all (pm_okr 111) = true := by decide +kernel
theorem pm_rr_112 : ∀ a, a < 112 → (pm_rwf a).all (pm_okr a) = true := lt_s pm_rr_111 pm_r_111
theorem pm_r_112 : (pm_rwf 112).all (pm_okr 112) = true := by decide +kernel
theorem pm_rr_113 : ∀ a, a < 113 → (pm_rwf a).all (pm_okr a) = true := lt_s pm_rr_112 pm_r_112
theorem pm_r_113 : (pm_rwf 113).all (pm_okr 113) = true := by decide +kernel
theorem pm_rr_114 : ∀ a, a < 114 → (pm_rwf a).all (pm_okr a) = true := lt_s pm_rr_113 pm_r_113
theorem pm_r_114 : (pm_rwf 114).all (pm_okr 114) = true := by decide +kernel
theorem pm_rr_115 : ∀ a, a < 115 → (pm_rwf a).all (pm_okr a) = true := lt_s pm_rr_114 pm_r_114
theorem pm_r_115 : (pm_rwf 115).all (pm_okr 115) = true := by decide +kernel
theorem pm_rr_116 : ∀ a, a < 116 → (pm_rwf a).all (pm_okr a) = true := lt_s pm_rr_115 pm_r_115
theorem pm_r_116 : (pm_rwf 116).all (pm_okr 116) = true := by decide +kernel
theorem pm_rr_117 : ∀ a, a < 117 → (pm_rwf a).all (pm_okr a) = true := lt_s pm_rr_116 pm_r_116
theorem pm_r_117 : (pm_rwf 117).all (pm_okr 117) = true := by decide +kernel
theorem pm_rr_118 : ∀ a, a < 118 → (pm_rwf a).all (pm_okr a) = true := lt_s pm_rr_117 pm_r_117
theorem pm_r_118 : (pm_rwf 118).all (pm_okr 118) = true := by decide +kernel
theorem pm_rr_119 : ∀ a, a < 119 → (pm_rwf a).all (pm_okr a) = true := lt_s pm_rr_118 pm_r_118
theorem pm_r_119 : (pm_rwf 119).all (pm_okr 119) = true := by decide +kernel
theorem pm_rr_120 : ∀ a, a < 120 → (pm_rwf a).all (pm_okr a) = true := lt_s pm_rr_119 pm_r_119
theorem pm_r_120 : (pm_rwf 120).all (pm_okr 120) = true := by decide +kernel
theorem pm_rr_121 : ∀ a, a < 121 → (pm_rwf a).all (pm_okr a) = true := lt_s pm_rr_120 pm_r_120
theorem pm_r_121 : (pm_rwf 121).all (pm_okr 121) = true := by decide +kernel
theorem pm_rr_122 : ∀ a, a < 122 → (pm_rwf a).all (pm_okr a) = true := lt_s pm_rr_121 pm_r_121
theorem pm_r_122 : (pm_rwf 122).all (pm_okr 122) = true := by decide +kernel
theorem pm_rr_123 : ∀ a, a < 123 → (pm_rwf a).all (pm_okr a) = true := lt_s pm_rr_122 pm_r_122
theorem pm_r_123 : (pm_rwf 123).all (pm_okr 123) = true := by decide +kernel
theorem pm_rr_124 : ∀ a, a < 124 → (pm_rwf a).all (pm_okr a) = true := lt_s pm_rr_123 pm_r_123
theorem pm_r_124 : (pm_rwf 124).all (pm_okr 124) = true := by decide +kernel
theorem pm_rr_125 : ∀ a, a < 125 → (pm_rwf a).all (pm_okr a) = true := lt_s pm_rr_124 pm_r_124
theorem pm_r_125 : (pm_rwf 125).all (pm_okr 125) = true := by decide +kernel
theorem pm_rr_126 : ∀ a, a < 126 → (pm_rwf a).all (pm_okr a) = true := lt_s pm_rr_125 pm_r_125
theorem pm_r_126 : (pm_rwf 126).all (pm_okr 126) = true := by decide +kernel
theorem pm_rr_127 : ∀ a, a < 127 → (pm_rwf a).all (pm_okr a) = true := lt_s pm_rr_126 pm_r_126
theorem pm_r_127 : (pm_rwf 127).all (pm_okr 127) = true := by decide +kernel
theorem pm_rr_128 : ∀ a, a < 128 → (pm_rwf a).all (pm_okr a) = true := lt_s pm_rr_127 pm_r_127
theorem pm_r_128 : (pm_rwf 128).all (pm_okr 128) = true := by decide +kernel
theorem pm_rr_129 : ∀ a, a < 129 → (pm_rwf a).all (pm_okr a) = true := lt_s pm_rr_128 pm_r_128
theorem pm_r_129 : (pm_rwf 129).all (pm_okr 129) = true := by decide +kernel
theorem pm_rr_130 : ∀ a, a < 130 → (pm_rwf a).all (pm_okr a) = true := lt_s pm_rr_129 pm_r_129
theorem pm_r_130 : (pm_rwf 130).all (pm_okr 130) = true := by decide +kernel
theorem pm_rr_131 : ∀ a, a < 131 → (pm_rwf a).all (pm_okr a) = true := lt_s pm_rr_130 pm_r_130
theorem pm_r_131 : (pm_rwf 131).all (pm_okr 131) = true := by decide +kernel
theorem pm_rr_132 : ∀ a, a < 132 → (pm_rwf a).all (pm_okr a) = true := lt_s pm_rr_131 pm_r_131
theorem pm_r_132 : (pm_rwf 132).all (pm_okr 132) = true := by decide +kernel
theorem pm_rr_133 : ∀ a, a < 133 → (pm_rwf a).all (pm_okr a) = true := lt_s pm_rr_132 pm_r_132
theorem pm_r_133 : (pm_rwf 133).all (pm_okr 133) = true := by decide +kernel
theorem pm_rr_134 : ∀ a, a < 134 → (pm_rwf a).all (pm_okr a) = true := lt_s pm_rr_133 pm_r_133
theorem pm_r_134 : (pm_rwf 134).all (pm_okr 134) = true := by decide +kernel
theorem pm_rr_135 : ∀ a, a < 135 → (pm_rwf a).all (pm_okr a) = true := lt_s pm_rr_134 pm_r_134
theorem pm_r_135 : (pm_rwf 135).all (pm_okr 135) = true := by decide +kernel
theorem pm_rr_136 : ∀ a, a < 136 → (pm_rwf a).all (pm_okr a) = true := lt_s pm_rr_135 pm_r_135
theorem pm_r_136 : (pm_rwf 136).all (pm_okr 136) = true := by decide +kernel
theorem pm_rr_137 : ∀ a, a < 137 → (pm_rwf a).all (pm_okr a) = true := lt_s pm_rr_136 pm_r_136
theorem pm_r_137 : (pm_rwf 137).all (pm_okr 137) = true := by decide +kernel
theorem pm_rr_138 : ∀ a, a < 138 → (pm_rwf a).all (pm_okr a) = true := lt_s pm_rr_137 pm_r_137
theorem pm_r_138 : (pm_rwf 138).all (pm_okr 138) = true := by decide +kernel
theorem pm_rr_139 : ∀ a, a < 139 → (pm_rwf a).all (pm_okr a) = true := lt_s pm_rr_138 pm_r_138
theorem pm_r_139 : (pm_rwf 139).all (pm_okr 139) = true := by decide +kernel
theorem pm_rr_140 : ∀ a, a < 140 → (pm_rwf a).all (pm_okr a) = true := lt_s pm_rr_139 pm_r_139
theorem pm_r_140 : (pm_rwf 140).all (pm_okr 140) = true := by decide +kernel
theorem pm_rr_141 : ∀ a, a < 141 → (pm_rwf a).all (pm_okr a) = true := lt_s pm_rr_140 pm_r_140
theorem pm_r_141 : (pm_rwf 141).all (pm_okr 141) = true := by decide +kernel
theorem pm_rr_142 : ∀ a, a < 142 → (pm_rwf a).all (pm_okr a) = true := lt_s pm_rr_141 pm_r_141
theorem pm_r_142 : (pm_rwf 142).all (pm_okr 142) = true := by decide +kernel
theorem pm_rr_143 : ∀ a, a < 143 → (pm_rwf a).all (pm_okr a) = true := lt_s pm_rr_142 pm_r_142
end
section
/-! Rows of the law, pieces. -/
theorem pm_rl_0 : (((pm_rwf 143).drop 0).take 25).all (pm_okr 143) = true := by decide +kernel
theorem pm_rl_1 : (((pm_rwf 143).drop 25).take 25).all (pm_okr 143) = true := by decide +kernel
theorem pm_rl_2 : (((pm_rwf 143).drop 50).take 25).all (pm_okr 143) = true := by decide +kernel
theorem pm_rl_3 : (((pm_rwf 143).drop 75).take 25).all (pm_okr 143) = true := by decide +kernel
theorem pm_rl_4 : (((pm_rwf 143).drop 100).take 25).all (pm_okr 143) = true := by decide +kernel
theorem pm_rl_5 : (((pm_rwf 143).drop 125).take 25).all (pm_okr 143) = true := by decide +kernel
theorem pm_rl_6 : (((pm_rwf 143).drop 150).take 25).all (pm_okr 143) = true := by decide +kernel
theorem pm_rl_7 : (((pm_rwf 143).drop 175).take 25).all (pm_okr 143) = true := by decide +kernel
end
section
/-! Rows of the law, pieces. -/
theorem pm_rl_8 : (((pm_rwf 143).drop 200).take 25).all (pm_okr 143) = true := by decide +kernel
theorem pm_rl_9 : (((pm_rwf 143).drop 225).take 25).all (pm_okr 143) = true := by decide +kernel
theorem pm_rl_10 : (((pm_rwf 143).drop 250).take 25).all (pm_okr 143) = true := by decide +kernel
theorem pm_rl_11 : (((pm_rwf 143).drop 275).take 25).all (pm_okr 143) = true := by decide +kernel
theorem pm_rl_12 : (((pm_rwf 143).drop 300).take 25).all (pm_okr 143) = true := by decide +kernel
theorem pm_rl_13 : (((pm_rwf 143).drop 325).take 25).all (pm_okr 143) = true := by decide +kernel
theorem pm_rl_14 : (((pm_rwf 143).drop 350).take 25).all (pm_okr 143) = true := by decide +kernel
theorem pm_rl_15 : (((pm_rwf 143).drop 375).take 25).all (pm_okr 143) = true := by decide +kernel
end
section
/-! Rows of the law, pieces. -/
theorem pm_rl_16 : (((pm_rwf 143).drop 400).take 25).all (pm_okr 143) = true := by decide +kernel
theorem pm_rl_17 : (((pm_rwf 143).drop 425).take 25).all (pm_okr 143) = true := by decide +kernel
theorem pm_rl_18 : (((pm_rwf 143).drop 450).take 25).all (pm_okr 143) = true := by decide +kernel
theorem pm_rl_19 : (((pm_rwf 143).drop 475).take 25).all (pm_okr 143) = true := by decide +kernel
theorem pm_rl_20 : (((pm_rwf 143).drop 500).take 25).all (pm_okr 143) = true := by decide +kernel
theorem pm_rl_21 : (((pm_rwf 143).drop 525).take 25).all (pm_okr 143) = true := by decide +kernel
theorem pm_rl_22 : (((pm_rwf 143).drop 550).take 25).all (pm_okr 143) = true := by decide +kernel
theorem pm_rl_23 : (((pm_rwf 143).drop 575).take 25).all (pm_okr 143) = true := by decide +kernel
end
section
/-! Rows of the law, pieces. -/
theorem pm_rl_24 : (((pm_rwf 143).drop 600).take 25).all (pm_okr 143) = true := by decide +kernel
theorem pm_rl_25 : (((pm_rwf 143).drop 625).take 25).all (pm_okr 143) = true := by decide +kernel
theorem pm_rl_26 : (((pm_rwf 143).drop 650).take 25).all (pm_okr 143) = true := by decide +kernel
theorem pm_rl_27 : (((pm_rwf 143).drop 675).take 25).all (pm_okr 143) = true := by decide +kernel
theorem pm_rl_28 : (((pm_rwf 143).drop 700).take 25).all (pm_okr 143) = true := by decide +kernel
theorem pm_rl_29 : (((pm_rwf 143).drop 725).take 25).all (pm_okr 143) = true := by decide +kernel
theorem pm_rl_30 : (((pm_rwf 143).drop 750).take 25).all (pm_okr 143) = true := by decide +kernel
theorem pm_rl_31 : (((pm_rwf 143).drop 775).take 25).all (pm_okr 143) = true := by decide +kernel
end
section
/-! The tables' rows, all of them. -/
theorem pm_chunk {α : Type} {l : List α} {f : α → Bool} {b n : Nat} (hb : 0 < b) (hn : l.length ≤ b * n) (h : ∀ j, j < n → ((l.drop (b * j)).take b).all f = true) : l.all f = true := by
  rw [List.all_eq_true]
  intro r hr
  obtain ⟨i, hi⟩ := List.getElem?_of_mem hr
  have hlt : i < l.length := (List.getElem?_eq_some_iff.mp hi).1
  have hd : i = b * (i / b) + i % b := (Nat.div_add_mod i b).symm
  have hm : i % b < b := Nat.mod_lt _ hb
  have hj : i / b < n := by
    rw [Nat.div_lt_iff_lt_mul hb, Nat.mul_comm]
    omega
  refine List.all_eq_true.mp (h (i / b) hj) r ?_
  apply List.mem_of_getElem? (i := i % b)
  rw [List.getElem?_take, if_pos hm, List.getElem?_drop, ← hd]
  exact hi
theorem pm_rc_0 : ∀ j, j < 0 → (((pm_rwf 143).drop (25 * j)).take 25).all (pm_okr 143) = true := lt_0
theorem pm_rc_1 : ∀ j, j < 1 → (((pm_rwf 143).drop (25 * j)).take 25).all (pm_okr 143) = true := lt_s pm_rc_0 pm_rl_0
theorem pm_rc_2 : ∀ j, j < 2 → (((pm_rwf 143).drop (25 * j)).take 25).all (pm_okr 143) = true := lt_s pm_rc_1 pm_rl_1
theorem pm_rc_3 : ∀ j, j < 3 → (((pm_rwf 143).drop (25 * j)).take 25).all (pm_okr 143) = true := lt_s pm_rc_2 pm_rl_2
theorem pm_rc_4 : ∀ j, j < 4 → (((pm_rwf 143).drop (25 * j)).take 25).all (pm_okr 143) = true := lt_s pm_rc_3 pm_rl_3
theorem pm_rc_5 : ∀ j, j < 5 → (((pm_rwf 143).drop (25 * j)).take 25).all (pm_okr 143) = true := lt_s pm_rc_4 pm_rl_4
theorem pm_rc_6 : ∀ j, j < 6 → (((pm_rwf 143).drop (25 * j)).take 25).all (pm_okr 143) = true := lt_s pm_rc_5 pm_rl_5
theorem pm_rc_7 : ∀ j, j < 7 → (((pm_rwf 143).drop (25 * j)).take 25).all (pm_okr 143) = true := lt_s pm_rc_6 pm_rl_6
theorem pm_rc_8 : ∀ j, j < 8 → (((pm_rwf 143).drop (25 * j)).take 25).all (pm_okr 143) = true := lt_s pm_rc_7 pm_rl_7
theorem pm_rc_9 : ∀ j, j < 9 → (((pm_rwf 143).drop (25 * j)).take 25).all (pm_okr 143) = true := lt_s pm_rc_8 pm_rl_8
theorem pm_rc_10 : ∀ j, j < 10 → (((pm_rwf 143).drop (25 * j)).take 25).all (pm_okr 143) = true := lt_s pm_rc_9 pm_rl_9
theorem pm_rc_11 : ∀ j, j < 11 → (((pm_rwf 143).drop (25 * j)).take 25).all (pm_okr 143) = true := lt_s pm_rc_10 pm_rl_10
theorem pm_rc_12 : ∀ j, j < 12 → (((pm_rwf 143).drop (25 * j)).take 25).all (pm_okr 143) = true := lt_s pm_rc_11 pm_rl_11
theorem pm_rc_13 : ∀ j, j < 13 → (((pm_rwf 143).drop (25 * j)).take 25).all (pm_okr 143) = true := lt_s pm_rc_12 pm_rl_12
theorem pm_rc_14 : ∀ j, j < 14 → (((pm_rwf 143).drop (25 * j)).take 25).all (pm_okr 143) = true := lt_s pm_rc_13 pm_rl_13
theorem pm_rc_15 : ∀ j, j < 15 → (((pm_rwf 143).drop (25 * j)).take 25).all (pm_okr 143) = true := lt_s pm_rc_14 pm_rl_14
theorem pm_rc_16 : ∀ j, j < 16 → (((pm_rwf 143).drop (25 * j)).take 25).all (pm_okr 143) = true := lt_s pm_rc_15 pm_rl_15
theorem pm_rc_17 : ∀ j, j < 17 → (((pm_rwf 143).drop (25 * j)).take 25).all (pm_okr 143) = true := lt_s pm_rc_16 pm_rl_16
theorem pm_rc_18 : ∀ j, j < 18 → (((pm_rwf 143).drop (25 * j)).take 25).all (pm_okr 143) = true := lt_s pm_rc_17 pm_rl_17
theorem pm_rc_19 : ∀ j, j < 19 → (((pm_rwf 143).drop (25 * j)).take 25).all (pm_okr 143) = true := lt_s pm_rc_18 pm_rl_18
theorem pm_rc_20 : ∀ j, j < 20 → (((pm_rwf 143).drop (25 * j)).take 25).all (pm_okr 143) = true := lt_s pm_rc_19 pm_rl_19
theorem pm_rc_21 : ∀ j, j < 21 → (((pm_rwf 143).drop (25 * j)).take 25).all (pm_okr 143) = true := lt_s pm_rc_20 pm_rl_20
theorem pm_rc_22 : ∀ j, j < 22 → (((pm_rwf 143).drop (25 * j)).take 25).all (pm_okr 143) = true := lt_s pm_rc_21 pm_rl_21
theorem pm_rc_23 : ∀ j, j < 23 → (((pm_rwf 143).drop (25 * j)).take 25).all (pm_okr 143) = true := lt_s pm_rc_22 pm_rl_22
theorem pm_rc_24 : ∀ j, j < 24 → (((pm_rwf 143).drop (25 * j)).take 25).all (pm_okr 143) = true := lt_s pm_rc_23 pm_rl_23
theorem pm_rc_25 : ∀ j, j < 25 → (((pm_rwf 143).drop (25 * j)).take 25).all (pm_okr 143) = true := lt_s pm_rc_24 pm_rl_24
theorem pm_rc_26 : ∀ j, j < 26 → (((pm_rwf 143).drop (25 * j)).take 25).all (pm_okr 143) = true := lt_s pm_rc_25 pm_rl_25
theorem pm_rc_27 : ∀ j, j < 27 → (((pm_rwf 143).drop (25 * j)).take 25).all (pm_okr 143) = true := lt_s pm_rc_26 pm_rl_26
theorem pm_rc_28 : ∀ j, j < 28 → (((pm_rwf 143).drop (25 * j)).take 25).all (pm_okr 143) = true := lt_s pm_rc_27 pm_rl_27
theorem pm_rc_29 : ∀ j, j < 29 → (((pm_rwf 143).drop (25 * j)).take 25).all (pm_okr 143) = true := lt_s pm_rc_28 pm_rl_28
theorem pm_rc_30 : ∀ j, j < 30 → (((pm_rwf 143).drop (25 * j)).take 25).all (pm_okr 143) = true := lt_s pm_rc_29 pm_rl_29
theorem pm_rc_31 : ∀ j, j < 31 → (((pm_rwf 143).drop (25 * j)).take 25).all (pm_okr 143) = true := lt_s pm_rc_30 pm_rl_30
theorem pm_rc_32 : ∀ j, j < 32 → (((pm_rwf 143).drop (25 * j)).take 25).all (pm_okr 143) = true := lt_s pm_rc_31 pm_rl_31
theorem pm_r_143 : (pm_rwf 143).all (pm_okr 143) = true := pm_chunk (b := 25) (n := 32) (by decide) (by decide +kernel) pm_rc_32
theorem pm_rr_144 : ∀ a, a < 144 → (pm_rwf a).all (pm_okr a) = true := lt_s pm_rr_143 pm_r_143
theorem pm_okt_ok : pm_okt := by
  intro y r hr
  by_cases hy : y < 144
  · exact List.all_eq_true.mp (pm_rr_144 y hy) r hr
  · have h1 : pm_rws[y]? = none := List.getElem?_eq_none (by show 144 ≤ y; omega)
    unfold pm_rwf at hr
    rw [h1] at hr
    cases hr
end
