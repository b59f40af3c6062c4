/-! What each instruction does, one by one. -/
set_option maxRecDepth 100000 in
theorem rx_143_17 {X : pm_X} {o0 o1 o2 o3 : Option pm_V} {M : pm_M} {st : List pm_V} {x : Int32} : pm_Rc X 143 (17, [o0, o1, o2, o3], pm_i x :: st, M) = pm_Rc X 143 (18, [o0, o1, pm_nlz o2, some (pm_i x)], st, M) := pm_R_go rfl
set_option maxRecDepth 100000 in
theorem rx_143_18 {X : pm_X} {o0 o1 o2 : Option pm_V} {M : pm_M} {st : List pm_V} {x : Int32} : pm_Rc X 143 (18, [o0, o1, o2, some (pm_i x)], st, M) = pm_Rc X 143 (19, [o0, o1, o2, some (pm_i x)], pm_i x :: st, M) := pm_R_go rfl
set_option maxRecDepth 100000 in
theorem rx_143_19 {X : pm_X} {o1 o2 o3 : Option pm_V} {M : pm_M} {st : List pm_V} {x : Nat} : pm_Rc X 143 (19, [some (pm_r x), o1, o2, o3], st, M) = pm_Rc X 143 (20, [some (pm_r x), o1, o2, o3], pm_r x :: st, M) := pm_R_go rfl
set_option maxRecDepth 100000 in
theorem rx_143_20 {X : pm_X} {o0 o1 o2 o3 : Option pm_V} {M : pm_M} {st : List pm_V} {z : Nat} : pm_Rc X 143 (20, [o0, o1, o2, o3], pm_r z :: st, M) = (pm_aln X z).bind (fun v => pm_Rc X 143 (21, [o0, o1, o2, o3], pm_i v :: st, M)) := pm_R_aln rfl
set_option maxRecDepth 100000 in
theorem rx_143_21 {X : pm_X} {o0 o1 o2 o3 : Option pm_V} {M : pm_M} {st : List pm_V} : pm_Rc X 143 (21, [o0, o1, o2, o3], st, M) = pm_Rc X 143 (23, [o0, o1, o2, o3], pm_i (nI 6) :: st, M) := pm_R_go rfl
set_option maxRecDepth 100000 in
theorem rx_143_23 {X : pm_X} {o0 o1 o2 o3 : Option pm_V} {M : pm_M} {st : List pm_V} {a b : Int32} : pm_Rc X 143 (23, [o0, o1, o2, o3], pm_i b :: pm_i a :: st, M) = pm_Rc X 143 (24, [o0, o1, o2, o3], pm_i (a - b) :: st, M) := pm_R_go rfl
set_option maxRecDepth 100000 in
theorem rx_143_24 {X : pm_X} {o0 o1 o2 o3 : Option pm_V} {M : pm_M} {st : List pm_V} {a b : Int32} : pm_Rc X 143 (24, [o0, o1, o2, o3], pm_i b :: pm_i a :: st, M) = if b < a then pm_Rc X 143 (1123, [o0, o1, o2, o3], st, M) else pm_Rc X 143 (27, [o0, o1, o2, o3], st, M) := pm_R_icgt rfl
set_option maxRecDepth 100000 in
theorem rx_143_27 {X : pm_X} {o1 o2 o3 : Option pm_V} {M : pm_M} {st : List pm_V} {x : Nat} : pm_Rc X 143 (27, [some (pm_r x), o1, o2, o3], st, M) = pm_Rc X 143 (28, [some (pm_r x), o1, o2, o3], pm_r x :: st, M) := pm_R_go rfl
set_option maxRecDepth 100000 in
theorem rx_143_28 {X : pm_X} {o0 o1 o2 : Option pm_V} {M : pm_M} {st : List pm_V} {x : Int32} : pm_Rc X 143 (28, [o0, o1, o2, some (pm_i x)], st, M) = pm_Rc X 143 (29, [o0, o1, o2, some (pm_i x)], pm_i x :: st, M) := pm_R_go rfl
set_option maxRecDepth 100000 in
theorem rx_143_29 {X : pm_X} {o0 o1 o2 o3 : Option pm_V} {M : pm_M} {st : List pm_V} {x : Int32} {z : Nat} : pm_Rc X 143 (29, [o0, o1, o2, o3], pm_i x :: pm_r z :: st, M) = (pm_ald X z x M).bind (fun v => pm_Rc X 143 (30, [o0, o1, o2, o3], pm_i v :: st, M)) := pm_R_ald rfl
set_option maxRecDepth 100000 in
theorem rx_143_30 {X : pm_X} {o0 o1 o2 o3 : Option pm_V} {M : pm_M} {st : List pm_V} : pm_Rc X 143 (30, [o0, o1, o2, o3], st, M) = pm_Rc X 143 (32, [o0, o1, o2, o3], pm_i (nI 31) :: st, M) := pm_R_go rfl
set_option maxRecDepth 100000 in
theorem rx_143_32 {X : pm_X} {o0 o1 o2 o3 : Option pm_V} {M : pm_M} {st : List pm_V} {a b : Int32} : pm_Rc X 143 (32, [o0, o1, o2, o3], pm_i b :: pm_i a :: st, M) = pm_Rc X 143 (33, [o0, o1, o2, o3], pm_i (a &&& b) :: st, M) := pm_R_go rfl
set_option maxRecDepth 100000 in
theorem rx_143_33_0 {X : pm_X} {o0 o1 o2 o3 : Option pm_V} {M : pm_M} {st : List pm_V} : pm_Rc X 143 (33, [o0, o1, o2, o3], pm_i (nI 0) :: st, M) = pm_Rc X 143 (172, [o0, o1, o2, o3], st, M) := pm_R_go rfl
set_option maxRecDepth 100000 in
theorem rx_143_33_1 {X : pm_X} {o0 o1 o2 o3 : Option pm_V} {M : pm_M} {st : List pm_V} : pm_Rc X 143 (33, [o0, o1, o2, o3], pm_i (nI 1) :: st, M) = pm_Rc X 143 (225, [o0, o1, o2, o3], st, M) := pm_R_go rfl
set_option maxRecDepth 100000 in
theorem rx_143_33_2 {X : pm_X} {o0 o1 o2 o3 : Option pm_V} {M : pm_M} {st : List pm_V} : pm_Rc X 143 (33, [o0, o1, o2, o3], pm_i (nI 2) :: st, M) = pm_Rc X 143 (258, [o0, o1, o2, o3], st, M) := pm_R_go rfl
set_option maxRecDepth 100000 in
theorem rx_143_33_3 {X : pm_X} {o0 o1 o2 o3 : Option pm_V} {M : pm_M} {st : List pm_V} : pm_Rc X 143 (33, [o0, o1, o2, o3], pm_i (nI 3) :: st, M) = pm_Rc X 143 (291, [o0, o1, o2, o3], st, M) := pm_R_go rfl
set_option maxRecDepth 100000 in
theorem rx_143_33_4 {X : pm_X} {o0 o1 o2 o3 : Option pm_V} {M : pm_M} {st : List pm_V} : pm_Rc X 143 (33, [o0, o1, o2, o3], pm_i (nI 4) :: st, M) = pm_Rc X 143 (324, [o0, o1, o2, o3], st, M) := pm_R_go rfl
set_option maxRecDepth 100000 in
theorem rx_143_33_5 {X : pm_X} {o0 o1 o2 o3 : Option pm_V} {M : pm_M} {st : List pm_V} : pm_Rc X 143 (33, [o0, o1, o2, o3], pm_i (nI 5) :: st, M) = pm_Rc X 143 (357, [o0, o1, o2, o3], st, M) := pm_R_go rfl
set_option maxRecDepth 100000 in
theorem rx_143_33_6 {X : pm_X} {o0 o1 o2 o3 : Option pm_V} {M : pm_M} {st : List pm_V} : pm_Rc X 143 (33, [o0, o1, o2, o3], pm_i (nI 6) :: st, M) = pm_Rc X 143 (390, [o0, o1, o2, o3], st, M) := pm_R_go rfl
set_option maxRecDepth 100000 in
theorem rx_143_33_7 {X : pm_X} {o0 o1 o2 o3 : Option pm_V} {M : pm_M} {st : List pm_V} : pm_Rc X 143 (33, [o0, o1, o2, o3], pm_i (nI 7) :: st, M) = pm_Rc X 143 (423, [o0, o1, o2, o3], st, M) := pm_R_go rfl
set_option maxRecDepth 100000 in
theorem rx_143_33_8 {X : pm_X} {o0 o1 o2 o3 : Option pm_V} {M : pm_M} {st : List pm_V} : pm_Rc X 143 (33, [o0, o1, o2, o3], pm_i (nI 8) :: st, M) = pm_Rc X 143 (456, [o0, o1, o2, o3], st, M) := pm_R_go rfl
set_option maxRecDepth 100000 in
theorem rx_143_33_9 {X : pm_X} {o0 o1 o2 o3 : Option pm_V} {M : pm_M} {st : List pm_V} : pm_Rc X 143 (33, [o0, o1, o2, o3], pm_i (nI 9) :: st, M) = pm_Rc X 143 (479, [o0, o1, o2, o3], st, M) := pm_R_go rfl
set_option maxRecDepth 100000 in
theorem rx_143_33_10 {X : pm_X} {o0 o1 o2 o3 : Option pm_V} {M : pm_M} {st : List pm_V} : pm_Rc X 143 (33, [o0, o1, o2, o3], pm_i (nI 10) :: st, M) = pm_Rc X 143 (492, [o0, o1, o2, o3], st, M) := pm_R_go rfl
set_option maxRecDepth 100000 in
theorem rx_143_33_11 {X : pm_X} {o0 o1 o2 o3 : Option pm_V} {M : pm_M} {st : List pm_V} : pm_Rc X 143 (33, [o0, o1, o2, o3], pm_i (nI 11) :: st, M) = pm_Rc X 143 (555, [o0, o1, o2, o3], st, M) := pm_R_go rfl
set_option maxRecDepth 100000 in
theorem rx_143_33_12 {X : pm_X} {o0 o1 o2 o3 : Option pm_V} {M : pm_M} {st : List pm_V} : pm_Rc X 143 (33, [o0, o1, o2, o3], pm_i (nI 12) :: st, M) = pm_Rc X 143 (568, [o0, o1, o2, o3], st, M) := pm_R_go rfl
set_option maxRecDepth 100000 in
theorem rx_143_33_13 {X : pm_X} {o0 o1 o2 o3 : Option pm_V} {M : pm_M} {st : List pm_V} : pm_Rc X 143 (33, [o0, o1, o2, o3], pm_i (nI 13) :: st, M) = pm_Rc X 143 (581, [o0, o1, o2, o3], st, M) := pm_R_go rfl
set_option maxRecDepth 100000 in
theorem rx_143_33_14 {X : pm_X} {o0 o1 o2 o3 : Option pm_V} {M : pm_M} {st : List pm_V} : pm_Rc X 143 (33, [o0, o1, o2, o3], pm_i (nI 14) :: st, M) = pm_Rc X 143 (604, [o0, o1, o2, o3], st, M) := pm_R_go rfl
set_option maxRecDepth 100000 in
theorem rx_143_33_15 {X : pm_X} {o0 o1 o2 o3 : Option pm_V} {M : pm_M} {st : List pm_V} : pm_Rc X 143 (33, [o0, o1, o2, o3], pm_i (nI 15) :: st, M) = pm_Rc X 143 (647, [o0, o1, o2, o3], st, M) := pm_R_go rfl
set_option maxRecDepth 100000 in
theorem rx_143_33_16 {X : pm_X} {o0 o1 o2 o3 : Option pm_V} {M : pm_M} {st : List pm_V} : pm_Rc X 143 (33, [o0, o1, o2, o3], pm_i (nI 16) :: st, M) = pm_Rc X 143 (670, [o0, o1, o2, o3], st, M) := pm_R_go rfl
set_option maxRecDepth 100000 in
theorem rx_143_33_17 {X : pm_X} {o0 o1 o2 o3 : Option pm_V} {M : pm_M} {st : List pm_V} : pm_Rc X 143 (33, [o0, o1, o2, o3], pm_i (nI 17) :: st, M) = pm_Rc X 143 (693, [o0, o1, o2, o3], st, M) := pm_R_go rfl
set_option maxRecDepth 100000 in
theorem rx_143_33_18 {X : pm_X} {o0 o1 o2 o3 : Option pm_V} {M : pm_M} {st : List pm_V} : pm_Rc X 143 (33, [o0, o1, o2, o3], pm_i (nI 18) :: st, M) = pm_Rc X 143 (716, [o0, o1, o2, o3], st, M) := pm_R_go rfl
set_option maxRecDepth 100000 in
theorem rx_143_33_19 {X : pm_X} {o0 o1 o2 o3 : Option pm_V} {M : pm_M} {st : List pm_V} : pm_Rc X 143 (33, [o0, o1, o2, o3], pm_i (nI 19) :: st, M) = pm_Rc X 143 (739, [o0, o1, o2, o3], st, M) := pm_R_go rfl
set_option maxRecDepth 100000 in
theorem rx_143_33_20 {X : pm_X} {o0 o1 o2 o3 : Option pm_V} {M : pm_M} {st : List pm_V} : pm_Rc X 143 (33, [o0, o1, o2, o3], pm_i (nI 20) :: st, M) = pm_Rc X 143 (773, [o0, o1, o2, o3], st, M) := pm_R_go rfl
set_option maxRecDepth 100000 in
theorem rx_143_33_21 {X : pm_X} {o0 o1 o2 o3 : Option pm_V} {M : pm_M} {st : List pm_V} : pm_Rc X 143 (33, [o0, o1, o2, o3], pm_i (nI 21) :: st, M) = pm_Rc X 143 (816, [o0, o1, o2, o3], st, M) := pm_R_go rfl
set_option maxRecDepth 100000 in
theorem rx_143_33_22 {X : pm_X} {o0 o1 o2 o3 : Option pm_V} {M : pm_M} {st : List pm_V} : pm_Rc X 143 (33, [o0, o1, o2, o3], pm_i (nI 22) :: st, M) = pm_Rc X 143 (839, [o0, o1, o2, o3], st, M) := pm_R_go rfl
set_option maxRecDepth 100000 in
theorem rx_143_33_23 {X : pm_X} {o0 o1 o2 o3 : Option pm_V} {M : pm_M} {st : List pm_V} : pm_Rc X 143 (33, [o0, o1, o2, o3], pm_i (nI 23) :: st, M) = pm_Rc X 143 (882, [o0, o1, o2, o3], st, M) := pm_R_go rfl
set_option maxRecDepth 100000 in
theorem rx_143_33_24 {X : pm_X} {o0 o1 o2 o3 : Option pm_V} {M : pm_M} {st : List pm_V} : pm_Rc X 143 (33, [o0, o1, o2, o3], pm_i (nI 24) :: st, M) = pm_Rc X 143 (926, [o0, o1, o2, o3], st, M) := pm_R_go rfl
set_option maxRecDepth 100000 in
theorem rx_143_33_25 {X : pm_X} {o0 o1 o2 o3 : Option pm_V} {M : pm_M} {st : List pm_V} : pm_Rc X 143 (33, [o0, o1, o2, o3], pm_i (nI 25) :: st, M) = pm_Rc X 143 (989, [o0, o1, o2, o3], st, M) := pm_R_go rfl
set_option maxRecDepth 100000 in
theorem rx_143_33_26 {X : pm_X} {o0 o1 o2 o3 : Option pm_V} {M : pm_M} {st : List pm_V} : pm_Rc X 143 (33, [o0, o1, o2, o3], pm_i (nI 26) :: st, M) = pm_Rc X 143 (1012, [o0, o1, o2, o3], st, M) := pm_R_go rfl
set_option maxRecDepth 100000 in
theorem rx_143_33_27 {X : pm_X} {o0 o1 o2 o3 : Option pm_V} {M : pm_M} {st : List pm_V} : pm_Rc X 143 (33, [o0, o1, o2, o3], pm_i (nI 27) :: st, M) = pm_Rc X 143 (1035, [o0, o1, o2, o3], st, M) := pm_R_go rfl
set_option maxRecDepth 100000 in
theorem rx_143_33_28 {X : pm_X} {o0 o1 o2 o3 : Option pm_V} {M : pm_M} {st : List pm_V} : pm_Rc X 143 (33, [o0, o1, o2, o3], pm_i (nI 28) :: st, M) = pm_Rc X 143 (1068, [o0, o1, o2, o3], st, M) := pm_R_go rfl
set_option maxRecDepth 100000 in
theorem rx_143_33_29 {X : pm_X} {o0 o1 o2 o3 : Option pm_V} {M : pm_M} {st : List pm_V} : pm_Rc X 143 (33, [o0, o1, o2, o3], pm_i (nI 29) :: st, M) = pm_Rc X 143 (1081, [o0, o1, o2, o3], st, M) := pm_R_go rfl
set_option maxRecDepth 100000 in
theorem rx_143_33_30 {X : pm_X} {o0 o1 o2 o3 : Option pm_V} {M : pm_M} {st : List pm_V} : pm_Rc X 143 (33, [o0, o1, o2, o3], pm_i (nI 30) :: st, M) = pm_Rc X 143 (1094, [o0, o1, o2, o3], st, M) := pm_R_go rfl
set_option maxRecDepth 100000 in
theorem rx_143_33_d {X : pm_X} {o0 o1 o2 o3 : Option pm_V} {M : pm_M} {st : List pm_V} : pm_Rc X 143 (33, [o0, o1, o2, o3], pm_i (nI 31) :: st, M) = pm_Rc X 143 (1117, [o0, o1, o2, o3], st, M) := pm_R_go rfl
set_option maxRecDepth 100000 in
theorem rx_143_172 {X : pm_X} {o0 o2 o3 : Option pm_V} {M : pm_M} {st : List pm_V} {x : Nat} : pm_Rc X 143 (172, [o0, some (pm_r x), o2, o3], st, M) = pm_Rc X 143 (173, [o0, some (pm_r x), o2, o3], pm_r x :: st, M) := pm_R_go rfl
set_option maxRecDepth 100000 in
theorem rx_143_173 {X : pm_X} {o1 o2 o3 : Option pm_V} {M : pm_M} {st : List pm_V} {x : Nat} : pm_Rc X 143 (173, [some (pm_r x), o1, o2, o3], st, M) = pm_Rc X 143 (174, [some (pm_r x), o1, o2, o3], pm_r x :: st, M) := pm_R_go rfl
set_option maxRecDepth 100000 in
theorem rx_143_174 {X : pm_X} {o0 o1 o2 : Option pm_V} {M : pm_M} {st : List pm_V} {x : Int32} : pm_Rc X 143 (174, [o0, o1, o2, some (pm_i x)], st, M) = pm_Rc X 143 (175, [o0, o1, o2, some (pm_i x)], pm_i x :: st, M) := pm_R_go rfl
set_option maxRecDepth 100000 in
theorem rx_143_175 {X : pm_X} {o0 o1 o2 o3 : Option pm_V} {M : pm_M} {st : List pm_V} : pm_Rc X 143 (175, [o0, o1, o2, o3], st, M) = pm_Rc X 143 (176, [o0, o1, o2, o3], pm_i (nI 1) :: st, M) := pm_R_go rfl
set_option maxRecDepth 100000 in
theorem rx_143_176 {X : pm_X} {o0 o1 o2 o3 : Option pm_V} {M : pm_M} {st : List pm_V} {a b : Int32} : pm_Rc X 143 (176, [o0, o1, o2, o3], pm_i b :: pm_i a :: st, M) = pm_Rc X 143 (177, [o0, o1, o2, o3], pm_i (a + b) :: st, M) := pm_R_go rfl
set_option maxRecDepth 100000 in
theorem rx_143_177 {X : pm_X} {o0 o1 o2 o3 : Option pm_V} {M : pm_M} {st : List pm_V} {x : Int32} {z : Nat} : pm_Rc X 143 (177, [o0, o1, o2, o3], pm_i x :: pm_r z :: st, M) = (pm_ald X z x M).bind (fun v => pm_Rc X 143 (178, [o0, o1, o2, o3], pm_i v :: st, M)) := pm_R_ald rfl
set_option maxRecDepth 100000 in
theorem rx_143_178 {X : pm_X} {o1 o2 o3 : Option pm_V} {M : pm_M} {st : List pm_V} {x : Nat} : pm_Rc X 143 (178, [some (pm_r x), o1, o2, o3], st, M) = pm_Rc X 143 (179, [some (pm_r x), o1, o2, o3], pm_r x :: st, M) := pm_R_go rfl
set_option maxRecDepth 100000 in
theorem rx_143_179 {X : pm_X} {o0 o1 o2 : Option pm_V} {M : pm_M} {st : List pm_V} {x : Int32} : pm_Rc X 143 (179, [o0, o1, o2, some (pm_i x)], st, M) = pm_Rc X 143 (180, [o0, o1, o2, some (pm_i x)], pm_i x :: st, M) := pm_R_go rfl
set_option maxRecDepth 100000 in
theorem rx_143_180 {X : pm_X} {o0 o1 o2 o3 : Option pm_V} {M : pm_M} {st : List pm_V} : pm_Rc X 143 (180, [o0, o1, o2, o3], st, M) = pm_Rc X 143 (181, [o0, o1, o2, o3], pm_i (nI 2) :: st, M) := pm_R_go rfl
set_option maxRecDepth 100000 in
theorem rx_143_181 {X : pm_X} {o0 o1 o2 o3 : Option pm_V} {M : pm_M} {st : List pm_V} {a b : Int32} : pm_Rc X 143 (181, [o0, o1, o2, o3], pm_i b :: pm_i a :: st, M) = pm_Rc X 143 (182, [o0, o1, o2, o3], pm_i (a + b) :: st, M) := pm_R_go rfl
set_option maxRecDepth 100000 in
theorem rx_143_182 {X : pm_X} {o0 o1 o2 o3 : Option pm_V} {M : pm_M} {st : List pm_V} {x : Int32} {z : Nat} : pm_Rc X 143 (182, [o0, o1, o2, o3], pm_i x :: pm_r z :: st, M) = (pm_ald X z x M).bind (fun v => pm_Rc X 143 (183, [o0, o1, o2, o3], pm_i v :: st, M)) := pm_R_ald rfl
set_option maxRecDepth 100000 in
theorem rx_143_183 {X : pm_X} {o1 o2 o3 : Option pm_V} {M : pm_M} {st : List pm_V} {x : Nat} : pm_Rc X 143 (183, [some (pm_r x), o1, o2, o3], st, M) = pm_Rc X 143 (184, [some (pm_r x), o1, o2, o3], pm_r x :: st, M) := pm_R_go rfl
set_option maxRecDepth 100000 in
theorem rx_143_184 {X : pm_X} {o0 o1 o2 : Option pm_V} {M : pm_M} {st : List pm_V} {x : Int32} : pm_Rc X 143 (184, [o0, o1, o2, some (pm_i x)], st, M) = pm_Rc X 143 (185, [o0, o1, o2, some (pm_i x)], pm_i x :: st, M) := pm_R_go rfl
set_option maxRecDepth 100000 in
theorem rx_143_185 {X : pm_X} {o0 o1 o2 o3 : Option pm_V} {M : pm_M} {st : List pm_V} : pm_Rc X 143 (185, [o0, o1, o2, o3], st, M) = pm_Rc X 143 (186, [o0, o1, o2, o3], pm_i (nI 3) :: st, M) := pm_R_go rfl
set_option maxRecDepth 100000 in
theorem rx_143_186 {X : pm_X} {o0 o1 o2 o3 : Option pm_V} {M : pm_M} {st : List pm_V} {a b : Int32} : pm_Rc X 143 (186, [o0, o1, o2, o3], pm_i b :: pm_i a :: st, M) = pm_Rc X 143 (187, [o0, o1, o2, o3], pm_i (a + b) :: st, M) := pm_R_go rfl
set_option maxRecDepth 100000 in
theorem rx_143_187 {X : pm_X} {o0 o1 o2 o3 : Option pm_V} {M : pm_M} {st : List pm_V} {x : Int32} {z : Nat} : pm_Rc X 143 (187, [o0, o1, o2, o3], pm_i x :: pm_r z :: st, M) = (pm_ald X z x M).bind (fun v => pm_Rc X 143 (188, [o0, o1, o2, o3], pm_i v :: st, M)) := pm_R_ald rfl
set_option maxRecDepth 100000 in
theorem rx_143_188 {X : pm_X} {o1 o2 o3 : Option pm_V} {M : pm_M} {st : List pm_V} {x : Nat} : pm_Rc X 143 (188, [some (pm_r x), o1, o2, o3], st, M) = pm_Rc X 143 (189, [some (pm_r x), o1, o2, o3], pm_r x :: st, M) := pm_R_go rfl
set_option maxRecDepth 100000 in
theorem rx_143_189 {X : pm_X} {o0 o1 o2 : Option pm_V} {M : pm_M} {st : List pm_V} {x : Int32} : pm_Rc X 143 (189, [o0, o1, o2, some (pm_i x)], st, M) = pm_Rc X 143 (190, [o0, o1, o2, some (pm_i x)], pm_i x :: st, M) := pm_R_go rfl
set_option maxRecDepth 100000 in
theorem rx_143_190 {X : pm_X} {o0 o1 o2 o3 : Option pm_V} {M : pm_M} {st : List pm_V} : pm_Rc X 143 (190, [o0, o1, o2, o3], st, M) = pm_Rc X 143 (191, [o0, o1, o2, o3], pm_i (nI 4) :: st, M) := pm_R_go rfl
set_option maxRecDepth 100000 in
theorem rx_143_191 {X : pm_X} {o0 o1 o2 o3 : Option pm_V} {M : pm_M} {st : List pm_V} {a b : Int32} : pm_Rc X 143 (191, [o0, o1, o2, o3], pm_i b :: pm_i a :: st, M) = pm_Rc X 143 (192, [o0, o1, o2, o3], pm_i (a + b) :: st, M) := pm_R_go rfl
set_option maxRecDepth 100000 in
theorem rx_143_192 {X : pm_X} {o0 o1 o2 o3 : Option pm_V} {M : pm_M} {st : List pm_V} {x : Int32} {z : Nat} : pm_Rc X 143 (192, [o0, o1, o2, o3], pm_i x :: pm_r z :: st, M) = (pm_ald X z x M).bind (fun v => pm_Rc X 143 (193, [o0, o1, o2, o3], pm_i v :: st, M)) := pm_R_ald rfl
set_option maxRecDepth 100000 in
theorem rx_143_193 {X : pm_X} {o0 o1 o2 o3 : Option pm_V} {M : pm_M} {a0 : Int32} {a1 : Int32} {a2 : Int32} {a3 : Int32} : pm_Rc X 143 (193, [o0, o1, o2, o3], [pm_i a3, pm_i a2, pm_i a1, pm_i a0, pm_r 0], M) = (pm_Rc pm_X0 31 (0, [some (pm_r 0), some (pm_i a0), some (pm_i a1), some (pm_i a2), some (pm_i a3), none], [], M)).bind (fun r => pm_Rc X 143 (196, [o0, o1, o2, o3], pm_psh r.1 [], r.2)) := pm_R_call rfl (Nat.le_of_ble_eq_true rfl) rfl
set_option maxRecDepth 100000 in
theorem rx_143_196 {X : pm_X} {o0 o1 o3 : Option pm_V} {M : pm_M} {st : List pm_V} {x : Nat} : pm_Rc X 143 (196, [o0, o1, some (pm_r x), o3], st, M) = pm_Rc X 143 (197, [o0, o1, some (pm_r x), o3], pm_r x :: st, M) := pm_R_go rfl
set_option maxRecDepth 100000 in
theorem rx_143_197 {X : pm_X} {o1 o2 o3 : Option pm_V} {M : pm_M} {st : List pm_V} {x : Nat} : pm_Rc X 143 (197, [some (pm_r x), o1, o2, o3], st, M) = pm_Rc X 143 (198, [some (pm_r x), o1, o2, o3], pm_r x :: st, M) := pm_R_go rfl
set_option maxRecDepth 100000 in
theorem rx_143_198 {X : pm_X} {o0 o1 o2 : Option pm_V} {M : pm_M} {st : List pm_V} {x : Int32} : pm_Rc X 143 (198, [o0, o1, o2, some (pm_i x)], st, M) = pm_Rc X 143 (199, [o0, o1, o2, some (pm_i x)], pm_i x :: st, M) := pm_R_go rfl
set_option maxRecDepth 100000 in
theorem rx_143_199 {X : pm_X} {o0 o1 o2 o3 : Option pm_V} {M : pm_M} {st : List pm_V} : pm_Rc X 143 (199, [o0, o1, o2, o3], st, M) = pm_Rc X 143 (200, [o0, o1, o2, o3], pm_i (nI 1) :: st, M) := pm_R_go rfl
set_option maxRecDepth 100000 in
theorem rx_143_200 {X : pm_X} {o0 o1 o2 o3 : Option pm_V} {M : pm_M} {st : List pm_V} {a b : Int32} : pm_Rc X 143 (200, [o0, o1, o2, o3], pm_i b :: pm_i a :: st, M) = pm_Rc X 143 (201, [o0, o1, o2, o3], pm_i (a + b) :: st, M) := pm_R_go rfl
set_option maxRecDepth 100000 in
theorem rx_143_201 {X : pm_X} {o0 o1 o2 o3 : Option pm_V} {M : pm_M} {st : List pm_V} {x : Int32} {z : Nat} : pm_Rc X 143 (201, [o0, o1, o2, o3], pm_i x :: pm_r z :: st, M) = (pm_ald X z x M).bind (fun v => pm_Rc X 143 (202, [o0, o1, o2, o3], pm_i v :: st, M)) := pm_R_ald rfl
set_option maxRecDepth 100000 in
theorem rx_143_202 {X : pm_X} {o1 o2 o3 : Option pm_V} {M : pm_M} {st : List pm_V} {x : Nat} : pm_Rc X 143 (202, [some (pm_r x), o1, o2, o3], st, M) = pm_Rc X 143 (203, [some (pm_r x), o1, o2, o3], pm_r x :: st, M) := pm_R_go rfl
set_option maxRecDepth 100000 in
theorem rx_143_203 {X : pm_X} {o0 o1 o2 : Option pm_V} {M : pm_M} {st : List pm_V} {x : Int32} : pm_Rc X 143 (203, [o0, o1, o2, some (pm_i x)], st, M) = pm_Rc X 143 (204, [o0, o1, o2, some (pm_i x)], pm_i x :: st, M) := pm_R_go rfl
set_option maxRecDepth 100000 in
theorem rx_143_204 {X : pm_X} {o0 o1 o2 o3 : Option pm_V} {M : pm_M} {st : List pm_V} : pm_Rc X 143 (204, [o0, o1, o2, o3], st, M) = pm_Rc X 143 (205, [o0, o1, o2, o3], pm_i (nI 2) :: st, M) := pm_R_go rfl
set_option maxRecDepth 100000 in
theorem rx_143_205 {X : pm_X} {o0 o1 o2 o3 : Option pm_V} {M : pm_M} {st : List pm_V} {a b : Int32} : pm_Rc X 143 (205, [o0, o1, o2, o3], pm_i b :: pm_i a :: st, M) = pm_Rc X 143 (206, [o0, o1, o2, o3], pm_i (a + b) :: st, M) := pm_R_go rfl
set_option maxRecDepth 100000 in
theorem rx_143_206 {X : pm_X} {o0 o1 o2 o3 : Option pm_V} {M : pm_M} {st : List pm_V} {x : Int32} {z : Nat} : pm_Rc X 143 (206, [o0, o1, o2, o3], pm_i x :: pm_r z :: st, M) = (pm_ald X z x M).bind (fun v => pm_Rc X 143 (207, [o0, o1, o2, o3], pm_i v :: st, M)) := pm_R_ald rfl
set_option maxRecDepth 100000 in
theorem rx_143_207 {X : pm_X} {o1 o2 o3 : Option pm_V} {M : pm_M} {st : List pm_V} {x : Nat} : pm_Rc X 143 (207, [some (pm_r x), o1, o2, o3], st, M) = pm_Rc X 143 (208, [some (pm_r x), o1, o2, o3], pm_r x :: st, M) := pm_R_go rfl
set_option maxRecDepth 100000 in
theorem rx_143_208 {X : pm_X} {o0 o1 o2 : Option pm_V} {M : pm_M} {st : List pm_V} {x : Int32} : pm_Rc X 143 (208, [o0, o1, o2, some (pm_i x)], st, M) = pm_Rc X 143 (209, [o0, o1, o2, some (pm_i x)], pm_i x :: st, M) := pm_R_go rfl
set_option maxRecDepth 100000 in
theorem rx_143_209 {X : pm_X} {o0 o1 o2 o3 : Option pm_V} {M : pm_M} {st : List pm_V} : pm_Rc X 143 (209, [o0, o1, o2, o3], st, M) = pm_Rc X 143 (210, [o0, o1, o2, o3], pm_i (nI 3) :: st, M) := pm_R_go rfl
set_option maxRecDepth 100000 in
theorem rx_143_210 {X : pm_X} {o0 o1 o2 o3 : Option pm_V} {M : pm_M} {st : List pm_V} {a b : Int32} : pm_Rc X 143 (210, [o0, o1, o2, o3], pm_i b :: pm_i a :: st, M) = pm_Rc X 143 (211, [o0, o1, o2, o3], pm_i (a + b) :: st, M) := pm_R_go rfl
set_option maxRecDepth 100000 in
theorem rx_143_211 {X : pm_X} {o0 o1 o2 o3 : Option pm_V} {M : pm_M} {st : List pm_V} {x : Int32} {z : Nat} : pm_Rc X 143 (211, [o0, o1, o2, o3], pm_i x :: pm_r z :: st, M) = (pm_ald X z x M).bind (fun v => pm_Rc X 143 (212, [o0, o1, o2, o3], pm_i v :: st, M)) := pm_R_ald rfl
set_option maxRecDepth 100000 in
theorem rx_143_212 {X : pm_X} {o1 o2 o3 : Option pm_V} {M : pm_M} {st : List pm_V} {x : Nat} : pm_Rc X 143 (212, [some (pm_r x), o1, o2, o3], st, M) = pm_Rc X 143 (213, [some (pm_r x), o1, o2, o3], pm_r x :: st, M) := pm_R_go rfl
set_option maxRecDepth 100000 in
theorem rx_143_213 {X : pm_X} {o0 o1 o2 : Option pm_V} {M : pm_M} {st : List pm_V} {x : Int32} : pm_Rc X 143 (213, [o0, o1, o2, some (pm_i x)], st, M) = pm_Rc X 143 (214, [o0, o1, o2, some (pm_i x)], pm_i x :: st, M) := pm_R_go rfl
set_option maxRecDepth 100000 in
theorem rx_143_214 {X : pm_X} {o0 o1 o2 o3 : Option pm_V} {M : pm_M} {st : List pm_V} : pm_Rc X 143 (214, [o0, o1, o2, o3], st, M) = pm_Rc X 143 (215, [o0, o1, o2, o3], pm_i (nI 4) :: st, M) := pm_R_go rfl
set_option maxRecDepth 100000 in
theorem rx_143_215 {X : pm_X} {o0 o1 o2 o3 : Option pm_V} {M : pm_M} {st : List pm_V} {a b : Int32} : pm_Rc X 143 (215, [o0, o1, o2, o3], pm_i b :: pm_i a :: st, M) = pm_Rc X 143 (216, [o0, o1, o2, o3], pm_i (a + b) :: st, M) := pm_R_go rfl
set_option maxRecDepth 100000 in
theorem rx_143_216 {X : pm_X} {o0 o1 o2 o3 : Option pm_V} {M : pm_M} {st : List pm_V} {x : Int32} {z : Nat} : pm_Rc X 143 (216, [o0, o1, o2, o3], pm_i x :: pm_r z :: st, M) = (pm_ald X z x M).bind (fun v => pm_Rc X 143 (217, [o0, o1, o2, o3], pm_i v :: st, M)) := pm_R_ald rfl
set_option maxRecDepth 100000 in
theorem rx_143_217 {X : pm_X} {o0 o1 o2 o3 : Option pm_V} {M : pm_M} {a0 : Int32} {a1 : Int32} {a2 : Int32} {a3 : Int32} {w0 : pm_V} : pm_Rc X 143 (217, [o0, o1, o2, o3], [pm_i a3, pm_i a2, pm_i a1, pm_i a0, pm_r 23, w0], M) = (pm_Rc pm_X0 79 (0, [some (pm_r 23), some (pm_i a0), some (pm_i a1), some (pm_i a2), some (pm_i a3), none, none], [], M)).bind (fun r => pm_Rc X 143 (220, [o0, o1, o2, o3], pm_psh r.1 [w0], r.2)) := pm_R_call rfl (Nat.le_of_ble_eq_true rfl) rfl
set_option maxRecDepth 100000 in
theorem rx_143_220 {X : pm_X} {o0 o1 o2 o3 : Option pm_V} {M : pm_M} {st : List pm_V} {a b : Int32} : pm_Rc X 143 (220, [o0, o1, o2, o3], pm_i b :: pm_i a :: st, M) = if a = b then pm_Rc X 143 (1117, [o0, o1, o2, o3], st, M) else pm_Rc X 143 (223, [o0, o1, o2, o3], st, M) := pm_R_iceq rfl
set_option maxRecDepth 100000 in
theorem rx_143_223 {X : pm_X} {o0 o1 o2 o3 : Option pm_V} {M : pm_M} {st : List pm_V} : pm_Rc X 143 (223, [o0, o1, o2, o3], st, M) = pm_Rc X 143 (224, [o0, o1, o2, o3], pm_i (nI 0) :: st, M) := pm_R_go rfl
set_option maxRecDepth 100000 in
theorem rx_143_224_0 {X : pm_X} {o0 o1 o2 o3 : Option pm_V} {M : pm_M} : pm_Rc X 143 (224, [o0, o1, o2, o3], [pm_i (nI 0)], M) = some (some (pm_i (nI 0)), M) := pm_R_ret rfl
set_option maxRecDepth 100000 in
theorem rx_143_224_1 {X : pm_X} {o0 o1 o2 o3 : Option pm_V} {M : pm_M} : pm_Rc X 143 (224, [o0, o1, o2, o3], [pm_i (nI 1)], M) = some (some (pm_i (nI 1)), M) := pm_R_ret rfl
set_option maxRecDepth 100000 in
theorem rx_143_225 {X : pm_X} {o0 o2 o3 : Option pm_V} {M : pm_M} {st : List pm_V} {x : Nat} : pm_Rc X 143 (225, [o0, some (pm_r x), o2, o3], st, M) = pm_Rc X 143 (226, [o0, some (pm_r x), o2, o3], pm_r x :: st, M) := pm_R_go rfl
set_option maxRecDepth 100000 in
theorem rx_143_226 {X : pm_X} {o1 o2 o3 : Option pm_V} {M : pm_M} {st : List pm_V} {x : Nat} : pm_Rc X 143 (226, [some (pm_r x), o1, o2, o3], st, M) = pm_Rc X 143 (227, [some (pm_r x), o1, o2, o3], pm_r x :: st, M) := pm_R_go rfl
set_option maxRecDepth 100000 in
theorem rx_143_227 {X : pm_X} {o0 o1 o2 : Option pm_V} {M : pm_M} {st : List pm_V} {x : Int32} : pm_Rc X 143 (227, [o0, o1, o2, some (pm_i x)], st, M) = pm_Rc X 143 (228, [o0, o1, o2, some (pm_i x)], pm_i x :: st, M) := pm_R_go rfl
set_option maxRecDepth 100000 in
theorem rx_143_228 {X : pm_X} {o0 o1 o2 o3 : Option pm_V} {M : pm_M} {st : List pm_V} : pm_Rc X 143 (228, [o0, o1, o2, o3], st, M) = pm_Rc X 143 (229, [o0, o1, o2, o3], pm_i (nI 1) :: st, M) := pm_R_go rfl
set_option maxRecDepth 100000 in
theorem rx_143_229 {X : pm_X} {o0 o1 o2 o3 : Option pm_V} {M : pm_M} {st : List pm_V} {a b : Int32} : pm_Rc X 143 (229, [o0, o1, o2, o3], pm_i b :: pm_i a :: st, M) = pm_Rc X 143 (230, [o0, o1, o2, o3], pm_i (a + b) :: st, M) := pm_R_go rfl
set_option maxRecDepth 100000 in
theorem rx_143_230 {X : pm_X} {o0 o1 o2 o3 : Option pm_V} {M : pm_M} {st : List pm_V} {x : Int32} {z : Nat} : pm_Rc X 143 (230, [o0, o1, o2, o3], pm_i x :: pm_r z :: st, M) = (pm_ald X z x M).bind (fun v => pm_Rc X 143 (231, [o0, o1, o2, o3], pm_i v :: st, M)) := pm_R_ald rfl
set_option maxRecDepth 100000 in
theorem rx_143_231 {X : pm_X} {o1 o2 o3 : Option pm_V} {M : pm_M} {st : List pm_V} {x : Nat} : pm_Rc X 143 (231, [some (pm_r x), o1, o2, o3], st, M) = pm_Rc X 143 (232, [some (pm_r x), o1, o2, o3], pm_r x :: st, M) := pm_R_go rfl
set_option maxRecDepth 100000 in
theorem rx_143_232 {X : pm_X} {o0 o1 o2 : Option pm_V} {M : pm_M} {st : List pm_V} {x : Int32} : pm_Rc X 143 (232, [o0, o1, o2, some (pm_i x)], st, M) = pm_Rc X 143 (233, [o0, o1, o2, some (pm_i x)], pm_i x :: st, M) := pm_R_go rfl
set_option maxRecDepth 100000 in
theorem rx_143_233 {X : pm_X} {o0 o1 o2 o3 : Option pm_V} {M : pm_M} {st : List pm_V} : pm_Rc X 143 (233, [o0, o1, o2, o3], st, M) = pm_Rc X 143 (234, [o0, o1, o2, o3], pm_i (nI 2) :: st, M) := pm_R_go rfl
set_option maxRecDepth 100000 in
theorem rx_143_234 {X : pm_X} {o0 o1 o2 o3 : Option pm_V} {M : pm_M} {st : List pm_V} {a b : Int32} : pm_Rc X 143 (234, [o0, o1, o2, o3], pm_i b :: pm_i a :: st, M) = pm_Rc X 143 (235, [o0, o1, o2, o3], pm_i (a + b) :: st, M) := pm_R_go rfl
set_option maxRecDepth 100000 in
theorem rx_143_235 {X : pm_X} {o0 o1 o2 o3 : Option pm_V} {M : pm_M} {st : List pm_V} {x : Int32} {z : Nat} : pm_Rc X 143 (235, [o0, o1, o2, o3], pm_i x :: pm_r z :: st, M) = (pm_ald X z x M).bind (fun v => pm_Rc X 143 (236, [o0, o1, o2, o3], pm_i v :: st, M)) := pm_R_ald rfl
set_option maxRecDepth 100000 in
theorem rx_143_236 {X : pm_X} {o0 o1 o2 o3 : Option pm_V} {M : pm_M} {a0 : Int32} {a1 : Int32} : pm_Rc X 143 (236, [o0, o1, o2, o3], [pm_i a1, pm_i a0, pm_r 0], M) = (pm_Rc pm_X0 35 (0, [some (pm_r 0), some (pm_i a0), some (pm_i a1)], [], M)).bind (fun r => pm_Rc X 143 (239, [o0, o1, o2, o3], pm_psh r.1 [], r.2)) := pm_R_call rfl (Nat.le_of_ble_eq_true rfl) rfl
set_option maxRecDepth 100000 in
theorem rx_143_239 {X : pm_X} {o0 o1 o3 : Option pm_V} {M : pm_M} {st : List pm_V} {x : Nat} : pm_Rc X 143 (239, [o0, o1, some (pm_r x), o3], st, M) = pm_Rc X 143 (240, [o0, o1, some (pm_r x), o3], pm_r x :: st, M) := pm_R_go rfl
set_option maxRecDepth 100000 in
theorem rx_143_240 {X : pm_X} {o1 o2 o3 : Option pm_V} {M : pm_M} {st : List pm_V} {x : Nat} : pm_Rc X 143 (240, [some (pm_r x), o1, o2, o3], st, M) = pm_Rc X 143 (241, [some (pm_r x), o1, o2, o3], pm_r x :: st, M) := pm_R_go rfl
set_option maxRecDepth 100000 in
theorem rx_143_241 {X : pm_X} {o0 o1 o2 : Option pm_V} {M : pm_M} {st : List pm_V} {x : Int32} : pm_Rc X 143 (241, [o0, o1, o2, some (pm_i x)], st, M) = pm_Rc X 143 (242, [o0, o1, o2, some (pm_i x)], pm_i x :: st, M) := pm_R_go rfl
set_option maxRecDepth 100000 in
theorem rx_143_242 {X : pm_X} {o0 o1 o2 o3 : Option pm_V} {M : pm_M} {st : List pm_V} : pm_Rc X 143 (242, [o0, o1, o2, o3], st, M) = pm_Rc X 143 (243, [o0, o1, o2, o3], pm_i (nI 1) :: st, M) := pm_R_go rfl
set_option maxRecDepth 100000 in
theorem rx_143_243 {X : pm_X} {o0 o1 o2 o3 : Option pm_V} {M : pm_M} {st : List pm_V} {a b : Int32} : pm_Rc X 143 (243, [o0, o1, o2, o3], pm_i b :: pm_i a :: st, M) = pm_Rc X 143 (244, [o0, o1, o2, o3], pm_i (a + b) :: st, M) := pm_R_go rfl
set_option maxRecDepth 100000 in
theorem rx_143_244 {X : pm_X} {o0 o1 o2 o3 : Option pm_V} {M : pm_M} {st : List pm_V} {x : Int32} {z : Nat} : pm_Rc X 143 (244, [o0, o1, o2, o3], pm_i x :: pm_r z :: st, M) = (pm_ald X z x M).bind (fun v => pm_Rc X 143 (245, [o0, o1, o2, o3], pm_i v :: st, M)) := pm_R_ald rfl
set_option maxRecDepth 100000 in
theorem rx_143_245 {X : pm_X} {o1 o2 o3 : Option pm_V} {M : pm_M} {st : List pm_V} {x : Nat} : pm_Rc X 143 (245, [some (pm_r x), o1, o2, o3], st, M) = pm_Rc X 143 (246, [some (pm_r x), o1, o2, o3], pm_r x :: st, M) := pm_R_go rfl
set_option maxRecDepth 100000 in
theorem rx_143_246 {X : pm_X} {o0 o1 o2 : Option pm_V} {M : pm_M} {st : List pm_V} {x : Int32} : pm_Rc X 143 (246, [o0, o1, o2, some (pm_i x)], st, M) = pm_Rc X 143 (247, [o0, o1, o2, some (pm_i x)], pm_i x :: st, M) := pm_R_go rfl
set_option maxRecDepth 100000 in
theorem rx_143_247 {X : pm_X} {o0 o1 o2 o3 : Option pm_V} {M : pm_M} {st : List pm_V} : pm_Rc X 143 (247, [o0, o1, o2, o3], st, M) = pm_Rc X 143 (248, [o0, o1, o2, o3], pm_i (nI 2) :: st, M) := pm_R_go rfl
set_option maxRecDepth 100000 in
theorem rx_143_248 {X : pm_X} {o0 o1 o2 o3 : Option pm_V} {M : pm_M} {st : List pm_V} {a b : Int32} : pm_Rc X 143 (248, [o0, o1, o2, o3], pm_i b :: pm_i a :: st, M) = pm_Rc X 143 (249, [o0, o1, o2, o3], pm_i (a + b) :: st, M) := pm_R_go rfl
set_option maxRecDepth 100000 in
theorem rx_143_249 {X : pm_X} {o0 o1 o2 o3 : Option pm_V} {M : pm_M} {st : List pm_V} {x : Int32} {z : Nat} : pm_Rc X 143 (249, [o0, o1, o2, o3], pm_i x :: pm_r z :: st, M) = (pm_ald X z x M).bind (fun v => pm_Rc X 143 (250, [o0, o1, o2, o3], pm_i v :: st, M)) := pm_R_ald rfl
set_option maxRecDepth 100000 in
theorem rx_143_250 {X : pm_X} {o0 o1 o2 o3 : Option pm_V} {M : pm_M} {a0 : Int32} {a1 : Int32} {w0 : pm_V} : pm_Rc X 143 (250, [o0, o1, o2, o3], [pm_i a1, pm_i a0, pm_r 23, w0], M) = (pm_Rc pm_X0 92 (0, [some (pm_r 23), some (pm_i a0), some (pm_i a1)], [], M)).bind (fun r => pm_Rc X 143 (253, [o0, o1, o2, o3], pm_psh r.1 [w0], r.2)) := pm_R_call rfl (Nat.le_of_ble_eq_true rfl) rfl
set_option maxRecDepth 100000 in
theorem rx_143_253 {X : pm_X} {o0 o1 o2 o3 : Option pm_V} {M : pm_M} {st : List pm_V} {a b : Int32} : pm_Rc X 143 (253, [o0, o1, o2, o3], pm_i b :: pm_i a :: st, M) = if a = b then pm_Rc X 143 (1117, [o0, o1, o2, o3], st, M) else pm_Rc X 143 (256, [o0, o1, o2, o3], st, M) := pm_R_iceq rfl
set_option maxRecDepth 100000 in
theorem rx_143_256 {X : pm_X} {o0 o1 o2 o3 : Option pm_V} {M : pm_M} {st : List pm_V} : pm_Rc X 143 (256, [o0, o1, o2, o3], st, M) = pm_Rc X 143 (257, [o0, o1, o2, o3], pm_i (nI 0) :: st, M) := pm_R_go rfl
set_option maxRecDepth 100000 in
theorem rx_143_257_0 {X : pm_X} {o0 o1 o2 o3 : Option pm_V} {M : pm_M} : pm_Rc X 143 (257, [o0, o1, o2, o3], [pm_i (nI 0)], M) = some (some (pm_i (nI 0)), M) := pm_R_ret rfl
set_option maxRecDepth 100000 in
theorem rx_143_257_1 {X : pm_X} {o0 o1 o2 o3 : Option pm_V} {M : pm_M} : pm_Rc X 143 (257, [o0, o1, o2, o3], [pm_i (nI 1)], M) = some (some (pm_i (nI 1)), M) := pm_R_ret rfl
set_option maxRecDepth 100000 in
theorem rx_143_258 {X : pm_X} {o0 o2 o3 : Option pm_V} {M : pm_M} {st : List pm_V} {x : Nat} : pm_Rc X 143 (258, [o0, some (pm_r x), o2, o3], st, M) = pm_Rc X 143 (259, [o0, some (pm_r x), o2, o3], pm_r x :: st, M) := pm_R_go rfl
set_option maxRecDepth 100000 in
theorem rx_143_259 {X : pm_X} {o1 o2 o3 : Option pm_V} {M : pm_M} {st : List pm_V} {x : Nat} : pm_Rc X 143 (259, [some (pm_r x), o1, o2, o3], st, M) = pm_Rc X 143 (260, [some (pm_r x), o1, o2, o3], pm_r x :: st, M) := pm_R_go rfl
set_option maxRecDepth 100000 in
theorem rx_143_260 {X : pm_X} {o0 o1 o2 : Option pm_V} {M : pm_M} {st : List pm_V} {x : Int32} : pm_Rc X 143 (260, [o0, o1, o2, some (pm_i x)], st, M) = pm_Rc X 143 (261, [o0, o1, o2, some (pm_i x)], pm_i x :: st, M) := pm_R_go rfl
set_option maxRecDepth 100000 in
theorem rx_143_261 {X : pm_X} {o0 o1 o2 o3 : Option pm_V} {M : pm_M} {st : List pm_V} : pm_Rc X 143 (261, [o0, o1, o2, o3], st, M) = pm_Rc X 143 (262, [o0, o1, o2, o3], pm_i (nI 1) :: st, M) := pm_R_go rfl
set_option maxRecDepth 100000 in
theorem rx_143_262 {X : pm_X} {o0 o1 o2 o3 : Option pm_V} {M : pm_M} {st : List pm_V} {a b : Int32} : pm_Rc X 143 (262, [o0, o1, o2, o3], pm_i b :: pm_i a :: st, M) = pm_Rc X 143 (263, [o0, o1, o2, o3], pm_i (a + b) :: st, M) := pm_R_go rfl
set_option maxRecDepth 100000 in
theorem rx_143_263 {X : pm_X} {o0 o1 o2 o3 : Option pm_V} {M : pm_M} {st : List pm_V} {x : Int32} {z : Nat} : pm_Rc X 143 (263, [o0, o1, o2, o3], pm_i x :: pm_r z :: st, M) = (pm_ald X z x M).bind (fun v => pm_Rc X 143 (264, [o0, o1, o2, o3], pm_i v :: st, M)) := pm_R_ald rfl
set_option maxRecDepth 100000 in
theorem rx_143_264 {X : pm_X} {o1 o2 o3 : Option pm_V} {M : pm_M} {st : List pm_V} {x : Nat} : pm_Rc X 143 (264, [some (pm_r x), o1, o2, o3], st, M) = pm_Rc X 143 (265, [some (pm_r x), o1, o2, o3], pm_r x :: st, M) := pm_R_go rfl
set_option maxRecDepth 100000 in
theorem rx_143_265 {X : pm_X} {o0 o1 o2 : Option pm_V} {M : pm_M} {st : List pm_V} {x : Int32} : pm_Rc X 143 (265, [o0, o1, o2, some (pm_i x)], st, M) = pm_Rc X 143 (266, [o0, o1, o2, some (pm_i x)], pm_i x :: st, M) := pm_R_go rfl
set_option maxRecDepth 100000 in
theorem rx_143_266 {X : pm_X} {o0 o1 o2 o3 : Option pm_V} {M : pm_M} {st : List pm_V} : pm_Rc X 143 (266, [o0, o1, o2, o3], st, M) = pm_Rc X 143 (267, [o0, o1, o2, o3], pm_i (nI 2) :: st, M) := pm_R_go rfl
set_option maxRecDepth 100000 in
theorem rx_143_267 {X : pm_X} {o0 o1 o2 o3 : Option pm_V} {M : pm_M} {st : List pm_V} {a b : Int32} : pm_Rc X 143 (267, [o0, o1, o2, o3], pm_i b :: pm_i a :: st, M) = pm_Rc X 143 (268, [o0, o1, o2, o3], pm_i (a + b) :: st, M) := pm_R_go rfl
set_option maxRecDepth 100000 in
theorem rx_143_268 {X : pm_X} {o0 o1 o2 o3 : Option pm_V} {M : pm_M} {st : List pm_V} {x : Int32} {z : Nat} : pm_Rc X 143 (268, [o0, o1, o2, o3], pm_i x :: pm_r z :: st, M) = (pm_ald X z x M).bind (fun v => pm_Rc X 143 (269, [o0, o1, o2, o3], pm_i v :: st, M)) := pm_R_ald rfl
set_option maxRecDepth 100000 in
theorem rx_143_269 {X : pm_X} {o0 o1 o2 o3 : Option pm_V} {M : pm_M} {a0 : Int32} {a1 : Int32} : pm_Rc X 143 (269, [o0, o1, o2, o3], [pm_i a1, pm_i a0, pm_r 0], M) = (pm_Rc pm_X0 36 (0, [some (pm_r 0), some (pm_i a0), some (pm_i a1)], [], M)).bind (fun r => pm_Rc X 143 (272, [o0, o1, o2, o3], pm_psh r.1 [], r.2)) := pm_R_call rfl (Nat.le_of_ble_eq_true rfl) rfl
set_option maxRecDepth 100000 in
theorem rx_143_272 {X : pm_X} {o0 o1 o3 : Option pm_V} {M : pm_M} {st : List pm_V} {x : Nat} : pm_Rc X 143 (272, [o0, o1, some (pm_r x), o3], st, M) = pm_Rc X 143 (273, [o0, o1, some (pm_r x), o3], pm_r x :: st, M) := pm_R_go rfl
set_option maxRecDepth 100000 in
theorem rx_143_273 {X : pm_X} {o1 o2 o3 : Option pm_V} {M : pm_M} {st : List pm_V} {x : Nat} : pm_Rc X 143 (273, [some (pm_r x), o1, o2, o3], st, M) = pm_Rc X 143 (274, [some (pm_r x), o1, o2, o3], pm_r x :: st, M) := pm_R_go rfl
set_option maxRecDepth 100000 in
theorem rx_143_274 {X : pm_X} {o0 o1 o2 : Option pm_V} {M : pm_M} {st : List pm_V} {x : Int32} : pm_Rc X 143 (274, [o0, o1, o2, some (pm_i x)], st, M) = pm_Rc X 143 (275, [o0, o1, o2, some (pm_i x)], pm_i x :: st, M) := pm_R_go rfl
set_option maxRecDepth 100000 in
theorem rx_143_275 {X : pm_X} {o0 o1 o2 o3 : Option pm_V} {M : pm_M} {st : List pm_V} : pm_Rc X 143 (275, [o0, o1, o2, o3], st, M) = pm_Rc X 143 (276, [o0, o1, o2, o3], pm_i (nI 1) :: st, M) := pm_R_go rfl
set_option maxRecDepth 100000 in
theorem rx_143_276 {X : pm_X} {o0 o1 o2 o3 : Option pm_V} {M : pm_M} {st : List pm_V} {a b : Int32} : pm_Rc X 143 (276, [o0, o1, o2, o3], pm_i b :: pm_i a :: st, M) = pm_Rc X 143 (277, [o0, o1, o2, o3], pm_i (a + b) :: st, M) := pm_R_go rfl
set_option maxRecDepth 100000 in
theorem rx_143_277 {X : pm_X} {o0 o1 o2 o3 : Option pm_V} {M : pm_M} {st : List pm_V} {x : Int32} {z : Nat} : pm_Rc X 143 (277, [o0, o1, o2, o3], pm_i x :: pm_r z :: st, M) = (pm_ald X z x M).bind (fun v => pm_Rc X 143 (278, [o0, o1, o2, o3], pm_i v :: st, M)) := pm_R_ald rfl
set_option maxRecDepth 100000 in
theorem rx_143_278 {X : pm_X} {o1 o2 o3 : Option pm_V} {M : pm_M} {st : List pm_V} {x : Nat} : pm_Rc X 143 (278, [some (pm_r x), o1, o2, o3], st, M) = pm_Rc X 143 (279, [some (pm_r x), o1, o2, o3], pm_r x :: st, M) := pm_R_go rfl
set_option maxRecDepth 100000 in
theorem rx_143_279 {X : pm_X} {o0 o1 o2 : Option pm_V} {M : pm_M} {st : List pm_V} {x : Int32} : pm_Rc X 143 (279, [o0, o1, o2, some (pm_i x)], st, M) = pm_Rc X 143 (280, [o0, o1, o2, some (pm_i x)], pm_i x :: st, M) := pm_R_go rfl
set_option maxRecDepth 100000 in
theorem rx_143_280 {X : pm_X} {o0 o1 o2 o3 : Option pm_V} {M : pm_M} {st : List pm_V} : pm_Rc X 143 (280, [o0, o1, o2, o3], st, M) = pm_Rc X 143 (281, [o0, o1, o2, o3], pm_i (nI 2) :: st, M) := pm_R_go rfl
set_option maxRecDepth 100000 in
theorem rx_143_281 {X : pm_X} {o0 o1 o2 o3 : Option pm_V} {M : pm_M} {st : List pm_V} {a b : Int32} : pm_Rc X 143 (281, [o0, o1, o2, o3], pm_i b :: pm_i a :: st, M) = pm_Rc X 143 (282, [o0, o1, o2, o3], pm_i (a + b) :: st, M) := pm_R_go rfl
set_option maxRecDepth 100000 in
theorem rx_143_282 {X : pm_X} {o0 o1 o2 o3 : Option pm_V} {M : pm_M} {st : List pm_V} {x : Int32} {z : Nat} : pm_Rc X 143 (282, [o0, o1, o2, o3], pm_i x :: pm_r z :: st, M) = (pm_ald X z x M).bind (fun v => pm_Rc X 143 (283, [o0, o1, o2, o3], pm_i v :: st, M)) := pm_R_ald rfl
set_option maxRecDepth 100000 in
theorem rx_143_283 {X : pm_X} {o0 o1 o2 o3 : Option pm_V} {M : pm_M} {a0 : Int32} {a1 : Int32} {w0 : pm_V} : pm_Rc X 143 (283, [o0, o1, o2, o3], [pm_i a1, pm_i a0, pm_r 23, w0], M) = (pm_Rc pm_X0 94 (0, [some (pm_r 23), some (pm_i a0), some (pm_i a1)], [], M)).bind (fun r => pm_Rc X 143 (286, [o0, o1, o2, o3], pm_psh r.1 [w0], r.2)) := pm_R_call rfl (Nat.le_of_ble_eq_true rfl) rfl
set_option maxRecDepth 100000 in
theorem rx_143_286 {X : pm_X} {o0 o1 o2 o3 : Option pm_V} {M : pm_M} {st : List pm_V} {a b : Int32} : pm_Rc X 143 (286, [o0, o1, o2, o3], pm_i b :: pm_i a :: st, M) = if a = b then pm_Rc X 143 (1117, [o0, o1, o2, o3], st, M) else pm_Rc X 143 (289, [o0, o1, o2, o3], st, M) := pm_R_iceq rfl
set_option maxRecDepth 100000 in
theorem rx_143_289 {X : pm_X} {o0 o1 o2 o3 : Option pm_V} {M : pm_M} {st : List pm_V} : pm_Rc X 143 (289, [o0, o1, o2, o3], st, M) = pm_Rc X 143 (290, [o0, o1, o2, o3], pm_i (nI 0) :: st, M) := pm_R_go rfl
set_option maxRecDepth 100000 in
theorem rx_143_290_0 {X : pm_X} {o0 o1 o2 o3 : Option pm_V} {M : pm_M} : pm_Rc X 143 (290, [o0, o1, o2, o3], [pm_i (nI 0)], M) = some (some (pm_i (nI 0)), M) := pm_R_ret rfl
set_option maxRecDepth 100000 in
theorem rx_143_290_1 {X : pm_X} {o0 o1 o2 o3 : Option pm_V} {M : pm_M} : pm_Rc X 143 (290, [o0, o1, o2, o3], [pm_i (nI 1)], M) = some (some (pm_i (nI 1)), M) := pm_R_ret rfl
set_option maxRecDepth 100000 in
theorem rx_143_291 {X : pm_X} {o0 o2 o3 : Option pm_V} {M : pm_M} {st : List pm_V} {x : Nat} : pm_Rc X 143 (291, [o0, some (pm_r x), o2, o3], st, M) = pm_Rc X 143 (292, [o0, some (pm_r x), o2, o3], pm_r x :: st, M) := pm_R_go rfl
set_option maxRecDepth 100000 in
theorem rx_143_292 {X : pm_X} {o1 o2 o3 : Option pm_V} {M : pm_M} {st : List pm_V} {x : Nat} : pm_Rc X 143 (292, [some (pm_r x), o1, o2, o3], st, M) = pm_Rc X 143 (293, [some (pm_r x), o1, o2, o3], pm_r x :: st, M) := pm_R_go rfl
set_option maxRecDepth 100000 in
theorem rx_143_293 {X : pm_X} {o0 o1 o2 : Option pm_V} {M : pm_M} {st : List pm_V} {x : Int32} : pm_Rc X 143 (293, [o0, o1, o2, some (pm_i x)], st, M) = pm_Rc X 143 (294, [o0, o1, o2, some (pm_i x)], pm_i x :: st, M) := pm_R_go rfl
set_option maxRecDepth 100000 in
theorem rx_143_294 {X : pm_X} {o0 o1 o2 o3 : Option pm_V} {M : pm_M} {st : List pm_V} : pm_Rc X 143 (294, [o0, o1, o2, o3], st, M) = pm_Rc X 143 (295, [o0, o1, o2, o3], pm_i (nI 1) :: st, M) := pm_R_go rfl
set_option maxRecDepth 100000 in
theorem rx_143_295 {X : pm_X} {o0 o1 o2 o3 : Option pm_V} {M : pm_M} {st : List pm_V} {a b : Int32} : pm_Rc X 143 (295, [o0, o1, o2, o3], pm_i b :: pm_i a :: st, M) = pm_Rc X 143 (296, [o0, o1, o2, o3], pm_i (a + b) :: st, M) := pm_R_go rfl
set_option maxRecDepth 100000 in
theorem rx_143_296 {X : pm_X} {o0 o1 o2 o3 : Option pm_V} {M : pm_M} {st : List pm_V} {x : Int32} {z : Nat} : pm_Rc X 143 (296, [o0, o1, o2, o3], pm_i x :: pm_r z :: st, M) = (pm_ald X z x M).bind (fun v => pm_Rc X 143 (297, [o0, o1, o2, o3], pm_i v :: st, M)) := pm_R_ald rfl
set_option maxRecDepth 100000 in
theorem rx_143_297 {X : pm_X} {o1 o2 o3 : Option pm_V} {M : pm_M} {st : List pm_V} {x : Nat} : pm_Rc X 143 (297, [some (pm_r x), o1, o2, o3], st, M) = pm_Rc X 143 (298, [some (pm_r x), o1, o2, o3], pm_r x :: st, M) := pm_R_go rfl
set_option maxRecDepth 100000 in
theorem rx_143_298 {X : pm_X} {o0 o1 o2 : Option pm_V} {M : pm_M} {st : List pm_V} {x : Int32} : pm_Rc X 143 (298, [o0, o1, o2, some (pm_i x)], st, M) = pm_Rc X 143 (299, [o0, o1, o2, some (pm_i x)], pm_i x :: st, M) := pm_R_go rfl
set_option maxRecDepth 100000 in
theorem rx_143_299 {X : pm_X} {o0 o1 o2 o3 : Option pm_V} {M : pm_M} {st : List pm_V} : pm_Rc X 143 (299, [o0, o1, o2, o3], st, M) = pm_Rc X 143 (300, [o0, o1, o2, o3], pm_i (nI 2) :: st, M) := pm_R_go rfl
set_option maxRecDepth 100000 in
theorem rx_143_300 {X : pm_X} {o0 o1 o2 o3 : Option pm_V} {M : pm_M} {st : List pm_V} {a b : Int32} : pm_Rc X 143 (300, [o0, o1, o2, o3], pm_i b :: pm_i a :: st, M) = pm_Rc X 143 (301, [o0, o1, o2, o3], pm_i (a + b) :: st, M) := pm_R_go rfl
set_option maxRecDepth 100000 in
theorem rx_143_301 {X : pm_X} {o0 o1 o2 o3 : Option pm_V} {M : pm_M} {st : List pm_V} {x : Int32} {z : Nat} : pm_Rc X 143 (301, [o0, o1, o2, o3], pm_i x :: pm_r z :: st, M) = (pm_ald X z x M).bind (fun v => pm_Rc X 143 (302, [o0, o1, o2, o3], pm_i v :: st, M)) := pm_R_ald rfl
set_option maxRecDepth 100000 in
theorem rx_143_302 {X : pm_X} {o0 o1 o2 o3 : Option pm_V} {M : pm_M} {a0 : Int32} {a1 : Int32} : pm_Rc X 143 (302, [o0, o1, o2, o3], [pm_i a1, pm_i a0, pm_r 0], M) = (pm_Rc pm_X0 37 (0, [some (pm_r 0), some (pm_i a0), some (pm_i a1)], [], M)).bind (fun r => pm_Rc X 143 (305, [o0, o1, o2, o3], pm_psh r.1 [], r.2)) := pm_R_call rfl (Nat.le_of_ble_eq_true rfl) rfl
set_option maxRecDepth 100000 in
theorem rx_143_305 {X : pm_X} {o0 o1 o3 : Option pm_V} {M : pm_M} {st : List pm_V} {x : Nat} : pm_Rc X 143 (305, [o0, o1, some (pm_r x), o3], st, M) = pm_Rc X 143 (306, [o0, o1, some (pm_r x), o3], pm_r x :: st, M) := pm_R_go rfl
set_option maxRecDepth 100000 in
theorem rx_143_306 {X : pm_X} {o1 o2 o3 : Option pm_V} {M : pm_M} {st : List pm_V} {x : Nat} : pm_Rc X 143 (306, [some (pm_r x), o1, o2, o3], st, M) = pm_Rc X 143 (307, [some (pm_r x), o1, o2, o3], pm_r x :: st, M) := pm_R_go rfl
set_option maxRecDepth 100000 in
theorem rx_143_307 {X : pm_X} {o0 o1 o2 : Option pm_V} {M : pm_M} {st : List pm_V} {x : Int32} : pm_Rc X 143 (307, [o0, o1, o2, some (pm_i x)], st, M) = pm_Rc X 143 (308, [o0, o1, o2, some (pm_i x)], pm_i x :: st, M) := pm_R_go rfl
set_option maxRecDepth 100000 in
theorem rx_143_308 {X : pm_X} {o0 o1 o2 o3 : Option pm_V} {M : pm_M} {st : List pm_V} : pm_Rc X 143 (308, [o0, o1, o2, o3], st, M) = pm_Rc X 143 (309, [o0, o1, o2, o3], pm_i (nI 1) :: st, M) := pm_R_go rfl
set_option maxRecDepth 100000 in
theorem rx_143_309 {X : pm_X} {o0 o1 o2 o3 : Option pm_V} {M : pm_M} {st : List pm_V} {a b : Int32} : pm_Rc X 143 (309, [o0, o1, o2, o3], pm_i b :: pm_i a :: st, M) = pm_Rc X 143 (310, [o0, o1, o2, o3], pm_i (a + b) :: st, M) := pm_R_go rfl
set_option maxRecDepth 100000 in
theorem rx_143_310 {X : pm_X} {o0 o1 o2 o3 : Option pm_V} {M : pm_M} {st : List pm_V} {x : Int32} {z : Nat} : pm_Rc X 143 (310, [o0, o1, o2, o3], pm_i x :: pm_r z :: st, M) = (pm_ald X z x M).bind (fun v => pm_Rc X 143 (311, [o0, o1, o2, o3], pm_i v :: st, M)) := pm_R_ald rfl
set_option maxRecDepth 100000 in
theorem rx_143_311 {X : pm_X} {o1 o2 o3 : Option pm_V} {M : pm_M} {st : List pm_V} {x : Nat} : pm_Rc X 143 (311, [some (pm_r x), o1, o2, o3], st, M) = pm_Rc X 143 (312, [some (pm_r x), o1, o2, o3], pm_r x :: st, M) := pm_R_go rfl
set_option maxRecDepth 100000 in
theorem rx_143_312 {X : pm_X} {o0 o1 o2 : Option pm_V} {M : pm_M} {st : List pm_V} {x : Int32} : pm_Rc X 143 (312, [o0, o1, o2, some (pm_i x)], st, M) = pm_Rc X 143 (313, [o0, o1, o2, some (pm_i x)], pm_i x :: st, M) := pm_R_go rfl
set_option maxRecDepth 100000 in
theorem rx_143_313 {X : pm_X} {o0 o1 o2 o3 : Option pm_V} {M : pm_M} {st : List pm_V} : pm_Rc X 143 (313, [o0, o1, o2, o3], st, M) = pm_Rc X 143 (314, [o0, o1, o2, o3], pm_i (nI 2) :: st, M) := pm_R_go rfl
set_option maxRecDepth 100000 in
theorem rx_143_314 {X : pm_X} {o0 o1 o2 o3 : Option pm_V} {M : pm_M} {st : List pm_V} {a b : Int32} : pm_Rc X 143 (314, [o0, o1, o2, o3], pm_i b :: pm_i a :: st, M) = pm_Rc X 143 (315, [o0, o1, o2, o3], pm_i (a + b) :: st, M) := pm_R_go rfl
set_option maxRecDepth 100000 in
theorem rx_143_315 {X : pm_X} {o0 o1 o2 o3 : Option pm_V} {M : pm_M} {st : List pm_V} {x : Int32} {z : Nat} : pm_Rc X 143 (315, [o0, o1, o2, o3], pm_i x :: pm_r z :: st, M) = (pm_ald X z x M).bind (fun v => pm_Rc X 143 (316, [o0, o1, o2, o3], pm_i v :: st, M)) := pm_R_ald rfl
set_option maxRecDepth 100000 in
theorem rx_143_316 {X : pm_X} {o0 o1 o2 o3 : Option pm_V} {M : pm_M} {a0 : Int32} {a1 : Int32} {w0 : pm_V} : pm_Rc X 143 (316, [o0, o1, o2, o3], [pm_i a1, pm_i a0, pm_r 23, w0], M) = (pm_Rc pm_X0 96 (0, [some (pm_r 23), some (pm_i a0), some (pm_i a1)], [], M)).bind (fun r => pm_Rc X 143 (319, [o0, o1, o2, o3], pm_psh r.1 [w0], r.2)) := pm_R_call rfl (Nat.le_of_ble_eq_true rfl) rfl
set_option maxRecDepth 100000 in
theorem rx_143_319 {X : pm_X} {o0 o1 o2 o3 : Option pm_V} {M : pm_M} {st : List pm_V} {a b : Int32} : pm_Rc X 143 (319, [o0, o1, o2, o3], pm_i b :: pm_i a :: st, M) = if a = b then pm_Rc X 143 (1117, [o0, o1, o2, o3], st, M) else pm_Rc X 143 (322, [o0, o1, o2, o3], st, M) := pm_R_iceq rfl
set_option maxRecDepth 100000 in
theorem rx_143_322 {X : pm_X} {o0 o1 o2 o3 : Option pm_V} {M : pm_M} {st : List pm_V} : pm_Rc X 143 (322, [o0, o1, o2, o3], st, M) = pm_Rc X 143 (323, [o0, o1, o2, o3], pm_i (nI 0) :: st, M) := pm_R_go rfl
set_option maxRecDepth 100000 in
theorem rx_143_323_0 {X : pm_X} {o0 o1 o2 o3 : Option pm_V} {M : pm_M} : pm_Rc X 143 (323, [o0, o1, o2, o3], [pm_i (nI 0)], M) = some (some (pm_i (nI 0)), M) := pm_R_ret rfl
set_option maxRecDepth 100000 in
theorem rx_143_323_1 {X : pm_X} {o0 o1 o2 o3 : Option pm_V} {M : pm_M} : pm_Rc X 143 (323, [o0, o1, o2, o3], [pm_i (nI 1)], M) = some (some (pm_i (nI 1)), M) := pm_R_ret rfl
set_option maxRecDepth 100000 in
theorem rx_143_324 {X : pm_X} {o0 o2 o3 : Option pm_V} {M : pm_M} {st : List pm_V} {x : Nat} : pm_Rc X 143 (324, [o0, some (pm_r x), o2, o3], st, M) = pm_Rc X 143 (325, [o0, some (pm_r x), o2, o3], pm_r x :: st, M) := pm_R_go rfl
set_option maxRecDepth 100000 in
theorem rx_143_325 {X : pm_X} {o1 o2 o3 : Option pm_V} {M : pm_M} {st : List pm_V} {x : Nat} : pm_Rc X 143 (325, [some (pm_r x), o1, o2, o3], st, M) = pm_Rc X 143 (326, [some (pm_r x), o1, o2, o3], pm_r x :: st, M) := pm_R_go rfl
set_option maxRecDepth 100000 in
theorem rx_143_326 {X : pm_X} {o0 o1 o2 : Option pm_V} {M : pm_M} {st : List pm_V} {x : Int32} : pm_Rc X 143 (326, [o0, o1, o2, some (pm_i x)], st, M) = pm_Rc X 143 (327, [o0, o1, o2, some (pm_i x)], pm_i x :: st, M) := pm_R_go rfl
set_option maxRecDepth 100000 in
theorem rx_143_327 {X : pm_X} {o0 o1 o2 o3 : Option pm_V} {M : pm_M} {st : List pm_V} : pm_Rc X 143 (327, [o0, o1, o2, o3], st, M) = pm_Rc X 143 (328, [o0, o1, o2, o3], pm_i (nI 1) :: st, M) := pm_R_go rfl
set_option maxRecDepth 100000 in
theorem rx_143_328 {X : pm_X} {o0 o1 o2 o3 : Option pm_V} {M : pm_M} {st : List pm_V} {a b : Int32} : pm_Rc X 143 (328, [o0, o1, o2, o3], pm_i b :: pm_i a :: st, M) = pm_Rc X 143 (329, [o0, o1, o2, o3], pm_i (a + b) :: st, M) := pm_R_go rfl
set_option maxRecDepth 100000 in
theorem rx_143_329 {X : pm_X} {o0 o1 o2 o3 : Option pm_V} {M : pm_M} {st : List pm_V} {x : Int32} {z : Nat} : pm_Rc X 143 (329, [o0, o1, o2, o3], pm_i x :: pm_r z :: st, M) = (pm_ald X z x M).bind (fun v => pm_Rc X 143 (330, [o0, o1, o2, o3], pm_i v :: st, M)) := pm_R_ald rfl
set_option maxRecDepth 100000 in
theorem rx_143_330 {X : pm_X} {o1 o2 o3 : Option pm_V} {M : pm_M} {st : List pm_V} {x : Nat} : pm_Rc X 143 (330, [some (pm_r x), o1, o2, o3], st, M) = pm_Rc X 143 (331, [some (pm_r x), o1, o2, o3], pm_r x :: st, M) := pm_R_go rfl
set_option maxRecDepth 100000 in
theorem rx_143_331 {X : pm_X} {o0 o1 o2 : Option pm_V} {M : pm_M} {st : List pm_V} {x : Int32} : pm_Rc X 143 (331, [o0, o1, o2, some (pm_i x)], st, M) = pm_Rc X 143 (332, [o0, o1, o2, some (pm_i x)], pm_i x :: st, M) := pm_R_go rfl
set_option maxRecDepth 100000 in
theorem rx_143_332 {X : pm_X} {o0 o1 o2 o3 : Option pm_V} {M : pm_M} {st : List pm_V} : pm_Rc X 143 (332, [o0, o1, o2, o3], st, M) = pm_Rc X 143 (333, [o0, o1, o2, o3], pm_i (nI 2) :: st, M) := pm_R_go rfl
set_option maxRecDepth 100000 in
theorem rx_143_333 {X : pm_X} {o0 o1 o2 o3 : Option pm_V} {M : pm_M} {st : List pm_V} {a b : Int32} : pm_Rc X 143 (333, [o0, o1, o2, o3], pm_i b :: pm_i a :: st, M) = pm_Rc X 143 (334, [o0, o1, o2, o3], pm_i (a + b) :: st, M) := pm_R_go rfl
set_option maxRecDepth 100000 in
theorem rx_143_334 {X : pm_X} {o0 o1 o2 o3 : Option pm_V} {M : pm_M} {st : List pm_V} {x : Int32} {z : Nat} : pm_Rc X 143 (334, [o0, o1, o2, o3], pm_i x :: pm_r z :: st, M) = (pm_ald X z x M).bind (fun v => pm_Rc X 143 (335, [o0, o1, o2, o3], pm_i v :: st, M)) := pm_R_ald rfl
set_option maxRecDepth 100000 in
theorem rx_143_335 {X : pm_X} {o0 o1 o2 o3 : Option pm_V} {M : pm_M} {a0 : Int32} {a1 : Int32} : pm_Rc X 143 (335, [o0, o1, o2, o3], [pm_i a1, pm_i a0, pm_r 0], M) = (pm_Rc pm_X0 38 (0, [some (pm_r 0), some (pm_i a0), some (pm_i a1), none], [], M)).bind (fun r => pm_Rc X 143 (338, [o0, o1, o2, o3], pm_psh r.1 [], r.2)) := pm_R_call rfl (Nat.le_of_ble_eq_true rfl) rfl
set_option maxRecDepth 100000 in
theorem rx_143_338 {X : pm_X} {o0 o1 o3 : Option pm_V} {M : pm_M} {st : List pm_V} {x : Nat} : pm_Rc X 143 (338, [o0, o1, some (pm_r x), o3], st, M) = pm_Rc X 143 (339, [o0, o1, some (pm_r x), o3], pm_r x :: st, M) := pm_R_go rfl
set_option maxRecDepth 100000 in
theorem rx_143_339 {X : pm_X} {o1 o2 o3 : Option pm_V} {M : pm_M} {st : List pm_V} {x : Nat} : pm_Rc X 143 (339, [some (pm_r x), o1, o2, o3], st, M) = pm_Rc X 143 (340, [some (pm_r x), o1, o2, o3], pm_r x :: st, M) := pm_R_go rfl
set_option maxRecDepth 100000 in
theorem rx_143_340 {X : pm_X} {o0 o1 o2 : Option pm_V} {M : pm_M} {st : List pm_V} {x : Int32} : pm_Rc X 143 (340, [o0, o1, o2, some (pm_i x)], st, M) = pm_Rc X 143 (341, [o0, o1, o2, some (pm_i x)], pm_i x :: st, M) := pm_R_go rfl
set_option maxRecDepth 100000 in
theorem rx_143_341 {X : pm_X} {o0 o1 o2 o3 : Option pm_V} {M : pm_M} {st : List pm_V} : pm_Rc X 143 (341, [o0, o1, o2, o3], st, M) = pm_Rc X 143 (342, [o0, o1, o2, o3], pm_i (nI 1) :: st, M) := pm_R_go rfl
set_option maxRecDepth 100000 in
theorem rx_143_342 {X : pm_X} {o0 o1 o2 o3 : Option pm_V} {M : pm_M} {st : List pm_V} {a b : Int32} : pm_Rc X 143 (342, [o0, o1, o2, o3], pm_i b :: pm_i a :: st, M) = pm_Rc X 143 (343, [o0, o1, o2, o3], pm_i (a + b) :: st, M) := pm_R_go rfl
set_option maxRecDepth 100000 in
theorem rx_143_343 {X : pm_X} {o0 o1 o2 o3 : Option pm_V} {M : pm_M} {st : List pm_V} {x : Int32} {z : Nat} : pm_Rc X 143 (343, [o0, o1, o2, o3], pm_i x :: pm_r z :: st, M) = (pm_ald X z x M).bind (fun v => pm_Rc X 143 (344, [o0, o1, o2, o3], pm_i v :: st, M)) := pm_R_ald rfl
set_option maxRecDepth 100000 in
theorem rx_143_344 {X : pm_X} {o1 o2 o3 : Option pm_V} {M : pm_M} {st : List pm_V} {x : Nat} : pm_Rc X 143 (344, [some (pm_r x), o1, o2, o3], st, M) = pm_Rc X 143 (345, [some (pm_r x), o1, o2, o3], pm_r x :: st, M) := pm_R_go rfl
set_option maxRecDepth 100000 in
theorem rx_143_345 {X : pm_X} {o0 o1 o2 : Option pm_V} {M : pm_M} {st : List pm_V} {x : Int32} : pm_Rc X 143 (345, [o0, o1, o2, some (pm_i x)], st, M) = pm_Rc X 143 (346, [o0, o1, o2, some (pm_i x)], pm_i x :: st, M) := pm_R_go rfl
set_option maxRecDepth 100000 in
theorem rx_143_346 {X : pm_X} {o0 o1 o2 o3 : Option pm_V} {M : pm_M} {st : List pm_V} : pm_Rc X 143 (346, [o0, o1, o2, o3], st, M) = pm_Rc X 143 (347, [o0, o1, o2, o3], pm_i (nI 2) :: st, M) := pm_R_go rfl
set_option maxRecDepth 100000 in
theorem rx_143_347 {X : pm_X} {o0 o1 o2 o3 : Option pm_V} {M : pm_M} {st : List pm_V} {a b : Int32} : pm_Rc X 143 (347, [o0, o1, o2, o3], pm_i b :: pm_i a :: st, M) = pm_Rc X 143 (348, [o0, o1, o2, o3], pm_i (a + b) :: st, M) := pm_R_go rfl
set_option maxRecDepth 100000 in
theorem rx_143_348 {X : pm_X} {o0 o1 o2 o3 : Option pm_V} {M : pm_M} {st : List pm_V} {x : Int32} {z : Nat} : pm_Rc X 143 (348, [o0, o1, o2, o3], pm_i x :: pm_r z :: st, M) = (pm_ald X z x M).bind (fun v => pm_Rc X 143 (349, [o0, o1, o2, o3], pm_i v :: st, M)) := pm_R_ald rfl
set_option maxRecDepth 100000 in
theorem rx_143_349 {X : pm_X} {o0 o1 o2 o3 : Option pm_V} {M : pm_M} {a0 : Int32} {a1 : Int32} {w0 : pm_V} : pm_Rc X 143 (349, [o0, o1, o2, o3], [pm_i a1, pm_i a0, pm_r 23, w0], M) = (pm_Rc pm_X0 98 (0, [some (pm_r 23), some (pm_i a0), some (pm_i a1), none], [], M)).bind (fun r => pm_Rc X 143 (352, [o0, o1, o2, o3], pm_psh r.1 [w0], r.2)) := pm_R_call rfl (Nat.le_of_ble_eq_true rfl) rfl
set_option maxRecDepth 100000 in
theorem rx_143_352 {X : pm_X} {o0 o1 o2 o3 : Option pm_V} {M : pm_M} {st : List pm_V} {a b : Int32} : pm_Rc X 143 (352, [o0, o1, o2, o3], pm_i b :: pm_i a :: st, M) = if a = b then pm_Rc X 143 (1117, [o0, o1, o2, o3], st, M) else pm_Rc X 143 (355, [o0, o1, o2, o3], st, M) := pm_R_iceq rfl
set_option maxRecDepth 100000 in
theorem rx_143_355 {X : pm_X} {o0 o1 o2 o3 : Option pm_V} {M : pm_M} {st : List pm_V} : pm_Rc X 143 (355, [o0, o1, o2, o3], st, M) = pm_Rc X 143 (356, [o0, o1, o2, o3], pm_i (nI 0) :: st, M) := pm_R_go rfl
set_option maxRecDepth 100000 in
theorem rx_143_356_0 {X : pm_X} {o0 o1 o2 o3 : Option pm_V} {M : pm_M} : pm_Rc X 143 (356, [o0, o1, o2, o3], [pm_i (nI 0)], M) = some (some (pm_i (nI 0)), M) := pm_R_ret rfl
set_option maxRecDepth 100000 in
theorem rx_143_356_1 {X : pm_X} {o0 o1 o2 o3 : Option pm_V} {M : pm_M} : pm_Rc X 143 (356, [o0, o1, o2, o3], [pm_i (nI 1)], M) = some (some (pm_i (nI 1)), M) := pm_R_ret rfl
set_option maxRecDepth 100000 in
theorem rx_143_357 {X : pm_X} {o0 o2 o3 : Option pm_V} {M : pm_M} {st : List pm_V} {x : Nat} : pm_Rc X 143 (357, [o0, some (pm_r x), o2, o3], st, M) = pm_Rc X 143 (358, [o0, some (pm_r x), o2, o3], pm_r x :: st, M) := pm_R_go rfl
set_option maxRecDepth 100000 in
theorem rx_143_358 {X : pm_X} {o1 o2 o3 : Option pm_V} {M : pm_M} {st : List pm_V} {x : Nat} : pm_Rc X 143 (358, [some (pm_r x), o1, o2, o3], st, M) = pm_Rc X 143 (359, [some (pm_r x), o1, o2, o3], pm_r x :: st, M) := pm_R_go rfl
set_option maxRecDepth 100000 in
theorem rx_143_359 {X : pm_X} {o0 o1 o2 : Option pm_V} {M : pm_M} {st : List pm_V} {x : Int32} : pm_Rc X 143 (359, [o0, o1, o2, some (pm_i x)], st, M) = pm_Rc X 143 (360, [o0, o1, o2, some (pm_i x)], pm_i x :: st, M) := pm_R_go rfl
set_option maxRecDepth 100000 in
theorem rx_143_360 {X : pm_X} {o0 o1 o2 o3 : Option pm_V} {M : pm_M} {st : List pm_V} : pm_Rc X 143 (360, [o0, o1, o2, o3], st, M) = pm_Rc X 143 (361, [o0, o1, o2, o3], pm_i (nI 1) :: st, M) := pm_R_go rfl
set_option maxRecDepth 100000 in
theorem rx_143_361 {X : pm_X} {o0 o1 o2 o3 : Option pm_V} {M : pm_M} {st : List pm_V} {a b : Int32} : pm_Rc X 143 (361, [o0, o1, o2, o3], pm_i b :: pm_i a :: st, M) = pm_Rc X 143 (362, [o0, o1, o2, o3], pm_i (a + b) :: st, M) := pm_R_go rfl
set_option maxRecDepth 100000 in
theorem rx_143_362 {X : pm_X} {o0 o1 o2 o3 : Option pm_V} {M : pm_M} {st : List pm_V} {x : Int32} {z : Nat} : pm_Rc X 143 (362, [o0, o1, o2, o3], pm_i x :: pm_r z :: st, M) = (pm_ald X z x M).bind (fun v => pm_Rc X 143 (363, [o0, o1, o2, o3], pm_i v :: st, M)) := pm_R_ald rfl
set_option maxRecDepth 100000 in
theorem rx_143_363 {X : pm_X} {o1 o2 o3 : Option pm_V} {M : pm_M} {st : List pm_V} {x : Nat} : pm_Rc X 143 (363, [some (pm_r x), o1, o2, o3], st, M) = pm_Rc X 143 (364, [some (pm_r x), o1, o2, o3], pm_r x :: st, M) := pm_R_go rfl
set_option maxRecDepth 100000 in
theorem rx_143_364 {X : pm_X} {o0 o1 o2 : Option pm_V} {M : pm_M} {st : List pm_V} {x : Int32} : pm_Rc X 143 (364, [o0, o1, o2, some (pm_i x)], st, M) = pm_Rc X 143 (365, [o0, o1, o2, some (pm_i x)], pm_i x :: st, M) := pm_R_go rfl
set_option maxRecDepth 100000 in
theorem rx_143_365 {X : pm_X} {o0 o1 o2 o3 : Option pm_V} {M : pm_M} {st : List pm_V} : pm_Rc X 143 (365, [o0, o1, o2, o3], st, M) = pm_Rc X 143 (366, [o0, o1, o2, o3], pm_i (nI 2) :: st, M) := pm_R_go rfl
set_option maxRecDepth 100000 in
theorem rx_143_366 {X : pm_X} {o0 o1 o2 o3 : Option pm_V} {M : pm_M} {st : List pm_V} {a b : Int32} : pm_Rc X 143 (366, [o0, o1, o2, o3], pm_i b :: pm_i a :: st, M) = pm_Rc X 143 (367, [o0, o1, o2, o3], pm_i (a + b) :: st, M) := pm_R_go rfl
set_option maxRecDepth 100000 in
theorem rx_143_367 {X : pm_X} {o0 o1 o2 o3 : Option pm_V} {M : pm_M} {st : List pm_V} {x : Int32} {z : Nat} : pm_Rc X 143 (367, [o0, o1, o2, o3], pm_i x :: pm_r z :: st, M) = (pm_ald X z x M).bind (fun v => pm_Rc X 143 (368, [o0, o1, o2, o3], pm_i v :: st, M)) := pm_R_ald rfl
set_option maxRecDepth 100000 in
theorem rx_143_368 {X : pm_X} {o0 o1 o2 o3 : Option pm_V} {M : pm_M} {a0 : Int32} {a1 : Int32} : pm_Rc X 143 (368, [o0, o1, o2, o3], [pm_i a1, pm_i a0, pm_r 0], M) = (pm_Rc pm_X0 39 (0, [some (pm_r 0), some (pm_i a0), some (pm_i a1), none], [], M)).bind (fun r => pm_Rc X 143 (371, [o0, o1, o2, o3], pm_psh r.1 [], r.2)) := pm_R_call rfl (Nat.le_of_ble_eq_true rfl) rfl
set_option maxRecDepth 100000 in
theorem rx_143_371 {X : pm_X} {o0 o1 o3 : Option pm_V} {M : pm_M} {st : List pm_V} {x : Nat} : pm_Rc X 143 (371, [o0, o1, some (pm_r x), o3], st, M) = pm_Rc X 143 (372, [o0, o1, some (pm_r x), o3], pm_r x :: st, M) := pm_R_go rfl
set_option maxRecDepth 100000 in
theorem rx_143_372 {X : pm_X} {o1 o2 o3 : Option pm_V} {M : pm_M} {st : List pm_V} {x : Nat} : pm_Rc X 143 (372, [some (pm_r x), o1, o2, o3], st, M) = pm_Rc X 143 (373, [some (pm_r x), o1, o2, o3], pm_r x :: st, M) := pm_R_go rfl
set_option maxRecDepth 100000 in
theorem rx_143_373 {X : pm_X} {o0 o1 o2 : Option pm_V} {M : pm_M} {st : List pm_V} {x : Int32} : pm_Rc X 143 (373, [o0, o1, o2, some (pm_i x)], st, M) = pm_Rc X 143 (374, [o0, o1, o2, some (pm_i x)], pm_i x :: st, M) := pm_R_go rfl
set_option maxRecDepth 100000 in
theorem rx_143_374 {X : pm_X} {o0 o1 o2 o3 : Option pm_V} {M : pm_M} {st : List pm_V} : pm_Rc X 143 (374, [o0, o1, o2, o3], st, M) = pm_Rc X 143 (375, [o0, o1, o2, o3], pm_i (nI 1) :: st, M) := pm_R_go rfl
set_option maxRecDepth 100000 in
theorem rx_143_375 {X : pm_X} {o0 o1 o2 o3 : Option pm_V} {M : pm_M} {st : List pm_V} {a b : Int32} : pm_Rc X 143 (375, [o0, o1, o2, o3], pm_i b :: pm_i a :: st, M) = pm_Rc X 143 (376, [o0, o1, o2, o3], pm_i (a + b) :: st, M) := pm_R_go rfl
set_option maxRecDepth 100000 in
theorem rx_143_376 {X : pm_X} {o0 o1 o2 o3 : Option pm_V} {M : pm_M} {st : List pm_V} {x : Int32} {z : Nat} : pm_Rc X 143 (376, [o0, o1, o2, o3], pm_i x :: pm_r z :: st, M) = (pm_ald X z x M).bind (fun v => pm_Rc X 143 (377, [o0, o1, o2, o3], pm_i v :: st, M)) := pm_R_ald rfl
set_option maxRecDepth 100000 in
theorem rx_143_377 {X : pm_X} {o1 o2 o3 : Option pm_V} {M : pm_M} {st : List pm_V} {x : Nat} : pm_Rc X 143 (377, [some (pm_r x), o1, o2, o3], st, M) = pm_Rc X 143 (378, [some (pm_r x), o1, o2, o3], pm_r x :: st, M) := pm_R_go rfl
set_option maxRecDepth 100000 in
theorem rx_143_378 {X : pm_X} {o0 o1 o2 : Option pm_V} {M : pm_M} {st : List pm_V} {x : Int32} : pm_Rc X 143 (378, [o0, o1, o2, some (pm_i x)], st, M) = pm_Rc X 143 (379, [o0, o1, o2, some (pm_i x)], pm_i x :: st, M) := pm_R_go rfl
set_option maxRecDepth 100000 in
theorem rx_143_379 {X : pm_X} {o0 o1 o2 o3 : Option pm_V} {M : pm_M} {st : List pm_V} : pm_Rc X 143 (379, [o0, o1, o2, o3], st, M) = pm_Rc X 143 (380, [o0, o1, o2, o3], pm_i (nI 2) :: st, M) := pm_R_go rfl
set_option maxRecDepth 100000 in
theorem rx_143_380 {X : pm_X} {o0 o1 o2 o3 : Option pm_V} {M : pm_M} {st : List pm_V} {a b : Int32} : pm_Rc X 143 (380, [o0, o1, o2, o3], pm_i b :: pm_i a :: st, M) = pm_Rc X 143 (381, [o0, o1, o2, o3], pm_i (a + b) :: st, M) := pm_R_go rfl
set_option maxRecDepth 100000 in
theorem rx_143_381 {X : pm_X} {o0 o1 o2 o3 : Option pm_V} {M : pm_M} {st : List pm_V} {x : Int32} {z : Nat} : pm_Rc X 143 (381, [o0, o1, o2, o3], pm_i x :: pm_r z :: st, M) = (pm_ald X z x M).bind (fun v => pm_Rc X 143 (382, [o0, o1, o2, o3], pm_i v :: st, M)) := pm_R_ald rfl
set_option maxRecDepth 100000 in
theorem rx_143_382 {X : pm_X} {o0 o1 o2 o3 : Option pm_V} {M : pm_M} {a0 : Int32} {a1 : Int32} {w0 : pm_V} : pm_Rc X 143 (382, [o0, o1, o2, o3], [pm_i a1, pm_i a0, pm_r 23, w0], M) = (pm_Rc pm_X0 99 (0, [some (pm_r 23), some (pm_i a0), some (pm_i a1), none], [], M)).bind (fun r => pm_Rc X 143 (385, [o0, o1, o2, o3], pm_psh r.1 [w0], r.2)) := pm_R_call rfl (Nat.le_of_ble_eq_true rfl) rfl
set_option maxRecDepth 100000 in
theorem rx_143_385 {X : pm_X} {o0 o1 o2 o3 : Option pm_V} {M : pm_M} {st : List pm_V} {a b : Int32} : pm_Rc X 143 (385, [o0, o1, o2, o3], pm_i b :: pm_i a :: st, M) = if a = b then pm_Rc X 143 (1117, [o0, o1, o2, o3], st, M) else pm_Rc X 143 (388, [o0, o1, o2, o3], st, M) := pm_R_iceq rfl
set_option maxRecDepth 100000 in
theorem rx_143_388 {X : pm_X} {o0 o1 o2 o3 : Option pm_V} {M : pm_M} {st : List pm_V} : pm_Rc X 143 (388, [o0, o1, o2, o3], st, M) = pm_Rc X 143 (389, [o0, o1, o2, o3], pm_i (nI 0) :: st, M) := pm_R_go rfl
set_option maxRecDepth 100000 in
theorem rx_143_389_0 {X : pm_X} {o0 o1 o2 o3 : Option pm_V} {M : pm_M} : pm_Rc X 143 (389, [o0, o1, o2, o3], [pm_i (nI 0)], M) = some (some (pm_i (nI 0)), M) := pm_R_ret rfl
set_option maxRecDepth 100000 in
theorem rx_143_389_1 {X : pm_X} {o0 o1 o2 o3 : Option pm_V} {M : pm_M} : pm_Rc X 143 (389, [o0, o1, o2, o3], [pm_i (nI 1)], M) = some (some (pm_i (nI 1)), M) := pm_R_ret rfl
set_option maxRecDepth 100000 in
theorem rx_143_390 {X : pm_X} {o0 o2 o3 : Option pm_V} {M : pm_M} {st : List pm_V} {x : Nat} : pm_Rc X 143 (390, [o0, some (pm_r x), o2, o3], st, M) = pm_Rc X 143 (391, [o0, some (pm_r x), o2, o3], pm_r x :: st, M) := pm_R_go rfl
set_option maxRecDepth 100000 in
theorem rx_143_391 {X : pm_X} {o1 o2 o3 : Option pm_V} {M : pm_M} {st : List pm_V} {x : Nat} : pm_Rc X 143 (391, [some (pm_r x), o1, o2, o3], st, M) = pm_Rc X 143 (392, [some (pm_r x), o1, o2, o3], pm_r x :: st, M) := pm_R_go rfl
set_option maxRecDepth 100000 in
theorem rx_143_392 {X : pm_X} {o0 o1 o2 : Option pm_V} {M : pm_M} {st : List pm_V} {x : Int32} : pm_Rc X 143 (392, [o0, o1, o2, some (pm_i x)], st, M) = pm_Rc X 143 (393, [o0, o1, o2, some (pm_i x)], pm_i x :: st, M) := pm_R_go rfl
set_option maxRecDepth 100000 in
theorem rx_143_393 {X : pm_X} {o0 o1 o2 o3 : Option pm_V} {M : pm_M} {st : List pm_V} : pm_Rc X 143 (393, [o0, o1, o2, o3], st, M) = pm_Rc X 143 (394, [o0, o1, o2, o3], pm_i (nI 1) :: st, M) := pm_R_go rfl
set_option maxRecDepth 100000 in
theorem rx_143_394 {X : pm_X} {o0 o1 o2 o3 : Option pm_V} {M : pm_M} {st : List pm_V} {a b : Int32} : pm_Rc X 143 (394, [o0, o1, o2, o3], pm_i b :: pm_i a :: st, M) = pm_Rc X 143 (395, [o0, o1, o2, o3], pm_i (a + b) :: st, M) := pm_R_go rfl
set_option maxRecDepth 100000 in
theorem rx_143_395 {X : pm_X} {o0 o1 o2 o3 : Option pm_V} {M : pm_M} {st : List pm_V} {x : Int32} {z : Nat} : pm_Rc X 143 (395, [o0, o1, o2, o3], pm_i x :: pm_r z :: st, M) = (pm_ald X z x M).bind (fun v => pm_Rc X 143 (396, [o0, o1, o2, o3], pm_i v :: st, M)) := pm_R_ald rfl
set_option maxRecDepth 100000 in
theorem rx_143_396 {X : pm_X} {o1 o2 o3 : Option pm_V} {M : pm_M} {st : List pm_V} {x : Nat} : pm_Rc X 143 (396, [some (pm_r x), o1, o2, o3], st, M) = pm_Rc X 143 (397, [some (pm_r x), o1, o2, o3], pm_r x :: st, M) := pm_R_go rfl
set_option maxRecDepth 100000 in
theorem rx_143_397 {X : pm_X} {o0 o1 o2 : Option pm_V} {M : pm_M} {st : List pm_V} {x : Int32} : pm_Rc X 143 (397, [o0, o1, o2, some (pm_i x)], st, M) = pm_Rc X 143 (398, [o0, o1, o2, some (pm_i x)], pm_i x :: st, M) := pm_R_go rfl
set_option maxRecDepth 100000 in
theorem rx_143_398 {X : pm_X} {o0 o1 o2 o3 : Option pm_V} {M : pm_M} {st : List pm_V} : pm_Rc X 143 (398, [o0, o1, o2, o3], st, M) = pm_Rc X 143 (399, [o0, o1, o2, o3], pm_i (nI 2) :: st, M) := pm_R_go rfl
set_option maxRecDepth 100000 in
theorem rx_143_399 {X : pm_X} {o0 o1 o2 o3 : Option pm_V} {M : pm_M} {st : List pm_V} {a b : Int32} : pm_Rc X 143 (399, [o0, o1, o2, o3], pm_i b :: pm_i a :: st, M) = pm_Rc X 143 (400, [o0, o1, o2, o3], pm_i (a + b) :: st, M) := pm_R_go rfl
set_option maxRecDepth 100000 in
theorem rx_143_400 {X : pm_X} {o0 o1 o2 o3 : Option pm_V} {M : pm_M} {st : List pm_V} {x : Int32} {z : Nat} : pm_Rc X 143 (400, [o0, o1, o2, o3], pm_i x :: pm_r z :: st, M) = (pm_ald X z x M).bind (fun v => pm_Rc X 143 (401, [o0, o1, o2, o3], pm_i v :: st, M)) := pm_R_ald rfl
set_option maxRecDepth 100000 in
theorem rx_143_401 {X : pm_X} {o0 o1 o2 o3 : Option pm_V} {M : pm_M} {a0 : Int32} {a1 : Int32} : pm_Rc X 143 (401, [o0, o1, o2, o3], [pm_i a1, pm_i a0, pm_r 0], M) = (pm_Rc pm_X0 40 (0, [some (pm_r 0), some (pm_i a0), some (pm_i a1)], [], M)).bind (fun r => pm_Rc X 143 (404, [o0, o1, o2, o3], pm_psh r.1 [], r.2)) := pm_R_call rfl (Nat.le_of_ble_eq_true rfl) rfl
set_option maxRecDepth 100000 in
theorem rx_143_404 {X : pm_X} {o0 o1 o3 : Option pm_V} {M : pm_M} {st : List pm_V} {x : Nat} : pm_Rc X 143 (404, [o0, o1, some (pm_r x), o3], st, M) = pm_Rc X 143 (405, [o0, o1, some (pm_r x), o3], pm_r x :: st, M) := pm_R_go rfl
set_option maxRecDepth 100000 in
theorem rx_143_405 {X : pm_X} {o1 o2 o3 : Option pm_V} {M : pm_M} {st : List pm_V} {x : Nat} : pm_Rc X 143 (405, [some (pm_r x), o1, o2, o3], st, M) = pm_Rc X 143 (406, [some (pm_r x), o1, o2, o3], pm_r x :: st, M) := pm_R_go rfl
set_option maxRecDepth 100000 in
theorem rx_143_406 {X : pm_X} {o0 o1 o2 : Option pm_V} {M : pm_M} {st : List pm_V} {x : Int32} : pm_Rc X 143 (406, [o0, o1, o2, some (pm_i x)], st, M) = pm_Rc X 143 (407, [o0, o1, o2, some (pm_i x)], pm_i x :: st, M) := pm_R_go rfl
set_option maxRecDepth 100000 in
theorem rx_143_407 {X : pm_X} {o0 o1 o2 o3 : Option pm_V} {M : pm_M} {st : List pm_V} : pm_Rc X 143 (407, [o0, o1, o2, o3], st, M) = pm_Rc X 143 (408, [o0, o1, o2, o3], pm_i (nI 1) :: st, M) := pm_R_go rfl
set_option maxRecDepth 100000 in
theorem rx_143_408 {X : pm_X} {o0 o1 o2 o3 : Option pm_V} {M : pm_M} {st : List pm_V} {a b : Int32} : pm_Rc X 143 (408, [o0, o1, o2, o3], pm_i b :: pm_i a :: st, M) = pm_Rc X 143 (409, [o0, o1, o2, o3], pm_i (a + b) :: st, M) := pm_R_go rfl
set_option maxRecDepth 100000 in
theorem rx_143_409 {X : pm_X} {o0 o1 o2 o3 : Option pm_V} {M : pm_M} {st : List pm_V} {x : Int32} {z : Nat} : pm_Rc X 143 (409, [o0, o1, o2, o3], pm_i x :: pm_r z :: st, M) = (pm_ald X z x M).bind (fun v => pm_Rc X 143 (410, [o0, o1, o2, o3], pm_i v :: st, M)) := pm_R_ald rfl
set_option maxRecDepth 100000 in
theorem rx_143_410 {X : pm_X} {o1 o2 o3 : Option pm_V} {M : pm_M} {st : List pm_V} {x : Nat} : pm_Rc X 143 (410, [some (pm_r x), o1, o2, o3], st, M) = pm_Rc X 143 (411, [some (pm_r x), o1, o2, o3], pm_r x :: st, M) := pm_R_go rfl
set_option maxRecDepth 100000 in
theorem rx_143_411 {X : pm_X} {o0 o1 o2 : Option pm_V} {M : pm_M} {st : List pm_V} {x : Int32} : pm_Rc X 143 (411, [o0, o1, o2, some (pm_i x)], st, M) = pm_Rc X 143 (412, [o0, o1, o2, some (pm_i x)], pm_i x :: st, M) := pm_R_go rfl
set_option maxRecDepth 100000 in
theorem rx_143_412 {X : pm_X} {o0 o1 o2 o3 : Option pm_V} {M : pm_M} {st : List pm_V} : pm_Rc X 143 (412, [o0, o1, o2, o3], st, M) = pm_Rc X 143 (413, [o0, o1, o2, o3], pm_i (nI 2) :: st, M) := pm_R_go rfl
set_option maxRecDepth 100000 in
theorem rx_143_413 {X : pm_X} {o0 o1 o2 o3 : Option pm_V} {M : pm_M} {st : List pm_V} {a b : Int32} : pm_Rc X 143 (413, [o0, o1, o2, o3], pm_i b :: pm_i a :: st, M) = pm_Rc X 143 (414, [o0, o1, o2, o3], pm_i (a + b) :: st, M) := pm_R_go rfl
set_option maxRecDepth 100000 in
theorem rx_143_414 {X : pm_X} {o0 o1 o2 o3 : Option pm_V} {M : pm_M} {st : List pm_V} {x : Int32} {z : Nat} : pm_Rc X 143 (414, [o0, o1, o2, o3], pm_i x :: pm_r z :: st, M) = (pm_ald X z x M).bind (fun v => pm_Rc X 143 (415, [o0, o1, o2, o3], pm_i v :: st, M)) := pm_R_ald rfl
set_option maxRecDepth 100000 in
theorem rx_143_415 {X : pm_X} {o0 o1 o2 o3 : Option pm_V} {M : pm_M} {a0 : Int32} {a1 : Int32} {w0 : pm_V} : pm_Rc X 143 (415, [o0, o1, o2, o3], [pm_i a1, pm_i a0, pm_r 23, w0], M) = (pm_Rc pm_X0 101 (0, [some (pm_r 23), some (pm_i a0), some (pm_i a1)], [], M)).bind (fun r => pm_Rc X 143 (418, [o0, o1, o2, o3], pm_psh r.1 [w0], r.2)) := pm_R_call rfl (Nat.le_of_ble_eq_true rfl) rfl
set_option maxRecDepth 100000 in
theorem rx_143_418 {X : pm_X} {o0 o1 o2 o3 : Option pm_V} {M : pm_M} {st : List pm_V} {a b : Int32} : pm_Rc X 143 (418, [o0, o1, o2, o3], pm_i b :: pm_i a :: st, M) = if a = b then pm_Rc X 143 (1117, [o0, o1, o2, o3], st, M) else pm_Rc X 143 (421, [o0, o1, o2, o3], st, M) := pm_R_iceq rfl
set_option maxRecDepth 100000 in
theorem rx_143_421 {X : pm_X} {o0 o1 o2 o3 : Option pm_V} {M : pm_M} {st : List pm_V} : pm_Rc X 143 (421, [o0, o1, o2, o3], st, M) = pm_Rc X 143 (422, [o0, o1, o2, o3], pm_i (nI 0) :: st, M) := pm_R_go rfl
set_option maxRecDepth 100000 in
theorem rx_143_422_0 {X : pm_X} {o0 o1 o2 o3 : Option pm_V} {M : pm_M} : pm_Rc X 143 (422, [o0, o1, o2, o3], [pm_i (nI 0)], M) = some (some (pm_i (nI 0)), M) := pm_R_ret rfl
set_option maxRecDepth 100000 in
theorem rx_143_422_1 {X : pm_X} {o0 o1 o2 o3 : Option pm_V} {M : pm_M} : pm_Rc X 143 (422, [o0, o1, o2, o3], [pm_i (nI 1)], M) = some (some (pm_i (nI 1)), M) := pm_R_ret rfl
set_option maxRecDepth 100000 in
theorem rx_143_423 {X : pm_X} {o0 o2 o3 : Option pm_V} {M : pm_M} {st : List pm_V} {x : Nat} : pm_Rc X 143 (423, [o0, some (pm_r x), o2, o3], st, M) = pm_Rc X 143 (424, [o0, some (pm_r x), o2, o3], pm_r x :: st, M) := pm_R_go rfl
set_option maxRecDepth 100000 in
theorem rx_143_424 {X : pm_X} {o1 o2 o3 : Option pm_V} {M : pm_M} {st : List pm_V} {x : Nat} : pm_Rc X 143 (424, [some (pm_r x), o1, o2, o3], st, M) = pm_Rc X 143 (425, [some (pm_r x), o1, o2, o3], pm_r x :: st, M) := pm_R_go rfl
set_option maxRecDepth 100000 in
theorem rx_143_425 {X : pm_X} {o0 o1 o2 : Option pm_V} {M : pm_M} {st : List pm_V} {x : Int32} : pm_Rc X 143 (425, [o0, o1, o2, some (pm_i x)], st, M) = pm_Rc X 143 (426, [o0, o1, o2, some (pm_i x)], pm_i x :: st, M) := pm_R_go rfl
set_option maxRecDepth 100000 in
theorem rx_143_426 {X : pm_X} {o0 o1 o2 o3 : Option pm_V} {M : pm_M} {st : List pm_V} : pm_Rc X 143 (426, [o0, o1, o2, o3], st, M) = pm_Rc X 143 (427, [o0, o1, o2, o3], pm_i (nI 1) :: st, M) := pm_R_go rfl
set_option maxRecDepth 100000 in
theorem rx_143_427 {X : pm_X} {o0 o1 o2 o3 : Option pm_V} {M : pm_M} {st : List pm_V} {a b : Int32} : pm_Rc X 143 (427, [o0, o1, o2, o3], pm_i b :: pm_i a :: st, M) = pm_Rc X 143 (428, [o0, o1, o2, o3], pm_i (a + b) :: st, M) := pm_R_go rfl
set_option maxRecDepth 100000 in
theorem rx_143_428 {X : pm_X} {o0 o1 o2 o3 : Option pm_V} {M : pm_M} {st : List pm_V} {x : Int32} {z : Nat} : pm_Rc X 143 (428, [o0, o1, o2, o3], pm_i x :: pm_r z :: st, M) = (pm_ald X z x M).bind (fun v => pm_Rc X 143 (429, [o0, o1, o2, o3], pm_i v :: st, M)) := pm_R_ald rfl
set_option maxRecDepth 100000 in
theorem rx_143_429 {X : pm_X} {o1 o2 o3 : Option pm_V} {M : pm_M} {st : List pm_V} {x : Nat} : pm_Rc X 143 (429, [some (pm_r x), o1, o2, o3], st, M) = pm_Rc X 143 (430, [some (pm_r x), o1, o2, o3], pm_r x :: st, M) := pm_R_go rfl
set_option maxRecDepth 100000 in
theorem rx_143_430 {X : pm_X} {o0 o1 o2 : Option pm_V} {M : pm_M} {st : List pm_V} {x : Int32} : pm_Rc X 143 (430, [o0, o1, o2, some (pm_i x)], st, M) = pm_Rc X 143 (431, [o0, o1, o2, some (pm_i x)], pm_i x :: st, M) := pm_R_go rfl
set_option maxRecDepth 100000 in
theorem rx_143_431 {X : pm_X} {o0 o1 o2 o3 : Option pm_V} {M : pm_M} {st : List pm_V} : pm_Rc X 143 (431, [o0, o1, o2, o3], st, M) = pm_Rc X 143 (432, [o0, o1, o2, o3], pm_i (nI 2) :: st, M) := pm_R_go rfl
set_option maxRecDepth 100000 in
theorem rx_143_432 {X : pm_X} {o0 o1 o2 o3 : Option pm_V} {M : pm_M} {st : List pm_V} {a b : Int32} : pm_Rc X 143 (432, [o0, o1, o2, o3], pm_i b :: pm_i a :: st, M) = pm_Rc X 143 (433, [o0, o1, o2, o3], pm_i (a + b) :: st, M) := pm_R_go rfl
set_option maxRecDepth 100000 in
theorem rx_143_433 {X : pm_X} {o0 o1 o2 o3 : Option pm_V} {M : pm_M} {st : List pm_V} {x : Int32} {z : Nat} : pm_Rc X 143 (433, [o0, o1, o2, o3], pm_i x :: pm_r z :: st, M) = (pm_ald X z x M).bind (fun v => pm_Rc X 143 (434, [o0, o1, o2, o3], pm_i v :: st, M)) := pm_R_ald rfl
set_option maxRecDepth 100000 in
theorem rx_143_434 {X : pm_X} {o0 o1 o2 o3 : Option pm_V} {M : pm_M} {a0 : Int32} {a1 : Int32} : pm_Rc X 143 (434, [o0, o1, o2, o3], [pm_i a1, pm_i a0, pm_r 0], M) = (pm_Rc pm_X0 43 (0, [some (pm_r 0), some (pm_i a0), some (pm_i a1)], [], M)).bind (fun r => pm_Rc X 143 (437, [o0, o1, o2, o3], pm_psh r.1 [], r.2)) := pm_R_call rfl (Nat.le_of_ble_eq_true rfl) rfl
set_option maxRecDepth 100000 in
theorem rx_143_437 {X : pm_X} {o0 o1 o3 : Option pm_V} {M : pm_M} {st : List pm_V} {x : Nat} : pm_Rc X 143 (437, [o0, o1, some (pm_r x), o3], st, M) = pm_Rc X 143 (438, [o0, o1, some (pm_r x), o3], pm_r x :: st, M) := pm_R_go rfl
set_option maxRecDepth 100000 in
theorem rx_143_438 {X : pm_X} {o1 o2 o3 : Option pm_V} {M : pm_M} {st : List pm_V} {x : Nat} : pm_Rc X 143 (438, [some (pm_r x), o1, o2, o3], st, M) = pm_Rc X 143 (439, [some (pm_r x), o1, o2, o3], pm_r x :: st, M) := pm_R_go rfl
set_option maxRecDepth 100000 in
theorem rx_143_439 {X : pm_X} {o0 o1 o2 : Option pm_V} {M : pm_M} {st : List pm_V} {x : Int32} : pm_Rc X 143 (439, [o0, o1, o2, some (pm_i x)], st, M) = pm_Rc X 143 (440, [o0, o1, o2, some (pm_i x)], pm_i x :: st, M) := pm_R_go rfl
set_option maxRecDepth 100000 in
theorem rx_143_440 {X : pm_X} {o0 o1 o2 o3 : Option pm_V} {M : pm_M} {st : List pm_V} : pm_Rc X 143 (440, [o0, o1, o2, o3], st, M) = pm_Rc X 143 (441, [o0, o1, o2, o3], pm_i (nI 1) :: st, M) := pm_R_go rfl
set_option maxRecDepth 100000 in
theorem rx_143_441 {X : pm_X} {o0 o1 o2 o3 : Option pm_V} {M : pm_M} {st : List pm_V} {a b : Int32} : pm_Rc X 143 (441, [o0, o1, o2, o3], pm_i b :: pm_i a :: st, M) = pm_Rc X 143 (442, [o0, o1, o2, o3], pm_i (a + b) :: st, M) := pm_R_go rfl
set_option maxRecDepth 100000 in
theorem rx_143_442 {X : pm_X} {o0 o1 o2 o3 : Option pm_V} {M : pm_M} {st : List pm_V} {x : Int32} {z : Nat} : pm_Rc X 143 (442, [o0, o1, o2, o3], pm_i x :: pm_r z :: st, M) = (pm_ald X z x M).bind (fun v => pm_Rc X 143 (443, [o0, o1, o2, o3], pm_i v :: st, M)) := pm_R_ald rfl
set_option maxRecDepth 100000 in
theorem rx_143_443 {X : pm_X} {o1 o2 o3 : Option pm_V} {M : pm_M} {st : List pm_V} {x : Nat} : pm_Rc X 143 (443, [some (pm_r x), o1, o2, o3], st, M) = pm_Rc X 143 (444, [some (pm_r x), o1, o2, o3], pm_r x :: st, M) := pm_R_go rfl
set_option maxRecDepth 100000 in
theorem rx_143_444 {X : pm_X} {o0 o1 o2 : Option pm_V} {M : pm_M} {st : List pm_V} {x : Int32} : pm_Rc X 143 (444, [o0, o1, o2, some (pm_i x)], st, M) = pm_Rc X 143 (445, [o0, o1, o2, some (pm_i x)], pm_i x :: st, M) := pm_R_go rfl
set_option maxRecDepth 100000 in
theorem rx_143_445 {X : pm_X} {o0 o1 o2 o3 : Option pm_V} {M : pm_M} {st : List pm_V} : pm_Rc X 143 (445, [o0, o1, o2, o3], st, M) = pm_Rc X 143 (446, [o0, o1, o2, o3], pm_i (nI 2) :: st, M) := pm_R_go rfl
set_option maxRecDepth 100000 in
theorem rx_143_446 {X : pm_X} {o0 o1 o2 o3 : Option pm_V} {M : pm_M} {st : List pm_V} {a b : Int32} : pm_Rc X 143 (446, [o0, o1, o2, o3], pm_i b :: pm_i a :: st, M) = pm_Rc X 143 (447, [o0, o1, o2, o3], pm_i (a + b) :: st, M) := pm_R_go rfl
set_option maxRecDepth 100000 in
theorem rx_143_447 {X : pm_X} {o0 o1 o2 o3 : Option pm_V} {M : pm_M} {st : List pm_V} {x : Int32} {z : Nat} : pm_Rc X 143 (447, [o0, o1, o2, o3], pm_i x :: pm_r z :: st, M) = (pm_ald X z x M).bind (fun v => pm_Rc X 143 (448, [o0, o1, o2, o3], pm_i v :: st, M)) := pm_R_ald rfl
set_option maxRecDepth 100000 in
theorem rx_143_448 {X : pm_X} {o0 o1 o2 o3 : Option pm_V} {M : pm_M} {a0 : Int32} {a1 : Int32} {w0 : pm_V} : pm_Rc X 143 (448, [o0, o1, o2, o3], [pm_i a1, pm_i a0, pm_r 23, w0], M) = (pm_Rc pm_X0 107 (0, [some (pm_r 23), some (pm_i a0), some (pm_i a1)], [], M)).bind (fun r => pm_Rc X 143 (451, [o0, o1, o2, o3], pm_psh r.1 [w0], r.2)) := pm_R_call rfl (Nat.le_of_ble_eq_true rfl) rfl
set_option maxRecDepth 100000 in
theorem rx_143_451 {X : pm_X} {o0 o1 o2 o3 : Option pm_V} {M : pm_M} {st : List pm_V} {a b : Int32} : pm_Rc X 143 (451, [o0, o1, o2, o3], pm_i b :: pm_i a :: st, M) = if a = b then pm_Rc X 143 (1117, [o0, o1, o2, o3], st, M) else pm_Rc X 143 (454, [o0, o1, o2, o3], st, M) := pm_R_iceq rfl
set_option maxRecDepth 100000 in
theorem rx_143_454 {X : pm_X} {o0 o1 o2 o3 : Option pm_V} {M : pm_M} {st : List pm_V} : pm_Rc X 143 (454, [o0, o1, o2, o3], st, M) = pm_Rc X 143 (455, [o0, o1, o2, o3], pm_i (nI 0) :: st, M) := pm_R_go rfl
set_option maxRecDepth 100000 in
theorem rx_143_455_0 {X : pm_X} {o0 o1 o2 o3 : Option pm_V} {M : pm_M} : pm_Rc X 143 (455, [o0, o1, o2, o3], [pm_i (nI 0)], M) = some (some (pm_i (nI 0)), M) := pm_R_ret rfl
set_option maxRecDepth 100000 in
theorem rx_143_455_1 {X : pm_X} {o0 o1 o2 o3 : Option pm_V} {M : pm_M} : pm_Rc X 143 (455, [o0, o1, o2, o3], [pm_i (nI 1)], M) = some (some (pm_i (nI 1)), M) := pm_R_ret rfl
set_option maxRecDepth 100000 in
theorem rx_143_456 {X : pm_X} {o0 o2 o3 : Option pm_V} {M : pm_M} {st : List pm_V} {x : Nat} : pm_Rc X 143 (456, [o0, some (pm_r x), o2, o3], st, M) = pm_Rc X 143 (457, [o0, some (pm_r x), o2, o3], pm_r x :: st, M) := pm_R_go rfl
set_option maxRecDepth 100000 in
theorem rx_143_457 {X : pm_X} {o1 o2 o3 : Option pm_V} {M : pm_M} {st : List pm_V} {x : Nat} : pm_Rc X 143 (457, [some (pm_r x), o1, o2, o3], st, M) = pm_Rc X 143 (458, [some (pm_r x), o1, o2, o3], pm_r x :: st, M) := pm_R_go rfl
set_option maxRecDepth 100000 in
theorem rx_143_458 {X : pm_X} {o0 o1 o2 : Option pm_V} {M : pm_M} {st : List pm_V} {x : Int32} : pm_Rc X 143 (458, [o0, o1, o2, some (pm_i x)], st, M) = pm_Rc X 143 (459, [o0, o1, o2, some (pm_i x)], pm_i x :: st, M) := pm_R_go rfl
set_option maxRecDepth 100000 in
theorem rx_143_459 {X : pm_X} {o0 o1 o2 o3 : Option pm_V} {M : pm_M} {st : List pm_V} : pm_Rc X 143 (459, [o0, o1, o2, o3], st, M) = pm_Rc X 143 (460, [o0, o1, o2, o3], pm_i (nI 1) :: st, M) := pm_R_go rfl
set_option maxRecDepth 100000 in
theorem rx_143_460 {X : pm_X} {o0 o1 o2 o3 : Option pm_V} {M : pm_M} {st : List pm_V} {a b : Int32} : pm_Rc X 143 (460, [o0, o1, o2, o3], pm_i b :: pm_i a :: st, M) = pm_Rc X 143 (461, [o0, o1, o2, o3], pm_i (a + b) :: st, M) := pm_R_go rfl
set_option maxRecDepth 100000 in
theorem rx_143_461 {X : pm_X} {o0 o1 o2 o3 : Option pm_V} {M : pm_M} {st : List pm_V} {x : Int32} {z : Nat} : pm_Rc X 143 (461, [o0, o1, o2, o3], pm_i x :: pm_r z :: st, M) = (pm_ald X z x M).bind (fun v => pm_Rc X 143 (462, [o0, o1, o2, o3], pm_i v :: st, M)) := pm_R_ald rfl
set_option maxRecDepth 100000 in
theorem rx_143_462 {X : pm_X} {o0 o1 o2 o3 : Option pm_V} {M : pm_M} {a0 : Int32} : pm_Rc X 143 (462, [o0, o1, o2, o3], [pm_i a0, pm_r 0], M) = (pm_Rc pm_X0 44 (0, [some (pm_r 0), some (pm_i a0)], [], M)).bind (fun r => pm_Rc X 143 (465, [o0, o1, o2, o3], pm_psh r.1 [], r.2)) := pm_R_call rfl (Nat.le_of_ble_eq_true rfl) rfl
set_option maxRecDepth 100000 in
theorem rx_143_465 {X : pm_X} {o0 o1 o3 : Option pm_V} {M : pm_M} {st : List pm_V} {x : Nat} : pm_Rc X 143 (465, [o0, o1, some (pm_r x), o3], st, M) = pm_Rc X 143 (466, [o0, o1, some (pm_r x), o3], pm_r x :: st, M) := pm_R_go rfl
set_option maxRecDepth 100000 in
theorem rx_143_466 {X : pm_X} {o1 o2 o3 : Option pm_V} {M : pm_M} {st : List pm_V} {x : Nat} : pm_Rc X 143 (466, [some (pm_r x), o1, o2, o3], st, M) = pm_Rc X 143 (467, [some (pm_r x), o1, o2, o3], pm_r x :: st, M) := pm_R_go rfl
set_option maxRecDepth 100000 in
theorem rx_143_467 {X : pm_X} {o0 o1 o2 : Option pm_V} {M : pm_M} {st : List pm_V} {x : Int32} : pm_Rc X 143 (467, [o0, o1, o2, some (pm_i x)], st, M) = pm_Rc X 143 (468, [o0, o1, o2, some (pm_i x)], pm_i x :: st, M) := pm_R_go rfl
set_option maxRecDepth 100000 in
theorem rx_143_468 {X : pm_X} {o0 o1 o2 o3 : Option pm_V} {M : pm_M} {st : List pm_V} : pm_Rc X 143 (468, [o0, o1, o2, o3], st, M) = pm_Rc X 143 (469, [o0, o1, o2, o3], pm_i (nI 1) :: st, M) := pm_R_go rfl
set_option maxRecDepth 100000 in
theorem rx_143_469 {X : pm_X} {o0 o1 o2 o3 : Option pm_V} {M : pm_M} {st : List pm_V} {a b : Int32} : pm_Rc X 143 (469, [o0, o1, o2, o3], pm_i b :: pm_i a :: st, M) = pm_Rc X 143 (470, [o0, o1, o2, o3], pm_i (a + b) :: st, M) := pm_R_go rfl
set_option maxRecDepth 100000 in
theorem rx_143_470 {X : pm_X} {o0 o1 o2 o3 : Option pm_V} {M : pm_M} {st : List pm_V} {x : Int32} {z : Nat} : pm_Rc X 143 (470, [o0, o1, o2, o3], pm_i x :: pm_r z :: st, M) = (pm_ald X z x M).bind (fun v => pm_Rc X 143 (471, [o0, o1, o2, o3], pm_i v :: st, M)) := pm_R_ald rfl
set_option maxRecDepth 100000 in
theorem rx_143_471 {X : pm_X} {o0 o1 o2 o3 : Option pm_V} {M : pm_M} {a0 : Int32} {w0 : pm_V} : pm_Rc X 143 (471, [o0, o1, o2, o3], [pm_i a0, pm_r 23, w0], M) = (pm_Rc pm_X0 108 (0, [some (pm_r 23), some (pm_i a0)], [], M)).bind (fun r => pm_Rc X 143 (474, [o0, o1, o2, o3], pm_psh r.1 [w0], r.2)) := pm_R_call rfl (Nat.le_of_ble_eq_true rfl) rfl
set_option maxRecDepth 100000 in
theorem rx_143_474 {X : pm_X} {o0 o1 o2 o3 : Option pm_V} {M : pm_M} {st : List pm_V} {a b : Int32} : pm_Rc X 143 (474, [o0, o1, o2, o3], pm_i b :: pm_i a :: st, M) = if a = b then pm_Rc X 143 (1117, [o0, o1, o2, o3], st, M) else pm_Rc X 143 (477, [o0, o1, o2, o3], st, M) := pm_R_iceq rfl
set_option maxRecDepth 100000 in
theorem rx_143_477 {X : pm_X} {o0 o1 o2 o3 : Option pm_V} {M : pm_M} {st : List pm_V} : pm_Rc X 143 (477, [o0, o1, o2, o3], st, M) = pm_Rc X 143 (478, [o0, o1, o2, o3], pm_i (nI 0) :: st, M) := pm_R_go rfl
set_option maxRecDepth 100000 in
theorem rx_143_478_0 {X : pm_X} {o0 o1 o2 o3 : Option pm_V} {M : pm_M} : pm_Rc X 143 (478, [o0, o1, o2, o3], [pm_i (nI 0)], M) = some (some (pm_i (nI 0)), M) := pm_R_ret rfl
set_option maxRecDepth 100000 in
theorem rx_143_478_1 {X : pm_X} {o0 o1 o2 o3 : Option pm_V} {M : pm_M} : pm_Rc X 143 (478, [o0, o1, o2, o3], [pm_i (nI 1)], M) = some (some (pm_i (nI 1)), M) := pm_R_ret rfl
set_option maxRecDepth 100000 in
theorem rx_143_479 {X : pm_X} {o0 o2 o3 : Option pm_V} {M : pm_M} {st : List pm_V} {x : Nat} : pm_Rc X 143 (479, [o0, some (pm_r x), o2, o3], st, M) = pm_Rc X 143 (480, [o0, some (pm_r x), o2, o3], pm_r x :: st, M) := pm_R_go rfl
set_option maxRecDepth 100000 in
theorem rx_143_480 {X : pm_X} {o0 o1 o2 o3 : Option pm_V} {M : pm_M} : pm_Rc X 143 (480, [o0, o1, o2, o3], [pm_r 0], M) = (pm_Rc pm_X0 45 (0, [some (pm_r 0)], [], M)).bind (fun r => pm_Rc X 143 (483, [o0, o1, o2, o3], pm_psh r.1 [], r.2)) := pm_R_call rfl (Nat.le_of_ble_eq_true rfl) rfl
set_option maxRecDepth 100000 in
theorem rx_143_483 {X : pm_X} {o0 o1 o3 : Option pm_V} {M : pm_M} {st : List pm_V} {x : Nat} : pm_Rc X 143 (483, [o0, o1, some (pm_r x), o3], st, M) = pm_Rc X 143 (484, [o0, o1, some (pm_r x), o3], pm_r x :: st, M) := pm_R_go rfl
set_option maxRecDepth 100000 in
theorem rx_143_484 {X : pm_X} {o0 o1 o2 o3 : Option pm_V} {M : pm_M} {w0 : pm_V} : pm_Rc X 143 (484, [o0, o1, o2, o3], [pm_r 23, w0], M) = (pm_Rc pm_X0 109 (0, [some (pm_r 23)], [], M)).bind (fun r => pm_Rc X 143 (487, [o0, o1, o2, o3], pm_psh r.1 [w0], r.2)) := pm_R_call rfl (Nat.le_of_ble_eq_true rfl) rfl
set_option maxRecDepth 100000 in
theorem rx_143_487 {X : pm_X} {o0 o1 o2 o3 : Option pm_V} {M : pm_M} {st : List pm_V} {a b : Int32} : pm_Rc X 143 (487, [o0, o1, o2, o3], pm_i b :: pm_i a :: st, M) = if a = b then pm_Rc X 143 (1117, [o0, o1, o2, o3], st, M) else pm_Rc X 143 (490, [o0, o1, o2, o3], st, M) := pm_R_iceq rfl
set_option maxRecDepth 100000 in
theorem rx_143_490 {X : pm_X} {o0 o1 o2 o3 : Option pm_V} {M : pm_M} {st : List pm_V} : pm_Rc X 143 (490, [o0, o1, o2, o3], st, M) = pm_Rc X 143 (491, [o0, o1, o2, o3], pm_i (nI 0) :: st, M) := pm_R_go rfl
set_option maxRecDepth 100000 in
theorem rx_143_491_0 {X : pm_X} {o0 o1 o2 o3 : Option pm_V} {M : pm_M} : pm_Rc X 143 (491, [o0, o1, o2, o3], [pm_i (nI 0)], M) = some (some (pm_i (nI 0)), M) := pm_R_ret rfl
set_option maxRecDepth 100000 in
theorem rx_143_491_1 {X : pm_X} {o0 o1 o2 o3 : Option pm_V} {M : pm_M} : pm_Rc X 143 (491, [o0, o1, o2, o3], [pm_i (nI 1)], M) = some (some (pm_i (nI 1)), M) := pm_R_ret rfl
set_option maxRecDepth 100000 in
theorem rx_143_492 {X : pm_X} {o0 o2 o3 : Option pm_V} {M : pm_M} {st : List pm_V} {x : Nat} : pm_Rc X 143 (492, [o0, some (pm_r x), o2, o3], st, M) = pm_Rc X 143 (493, [o0, some (pm_r x), o2, o3], pm_r x :: st, M) := pm_R_go rfl
set_option maxRecDepth 100000 in
theorem rx_143_493 {X : pm_X} {o1 o2 o3 : Option pm_V} {M : pm_M} {st : List pm_V} {x : Nat} : pm_Rc X 143 (493, [some (pm_r x), o1, o2, o3], st, M) = pm_Rc X 143 (494, [some (pm_r x), o1, o2, o3], pm_r x :: st, M) := pm_R_go rfl
set_option maxRecDepth 100000 in
theorem rx_143_494 {X : pm_X} {o0 o1 o2 : Option pm_V} {M : pm_M} {st : List pm_V} {x : Int32} : pm_Rc X 143 (494, [o0, o1, o2, some (pm_i x)], st, M) = pm_Rc X 143 (495, [o0, o1, o2, some (pm_i x)], pm_i x :: st, M) := pm_R_go rfl
set_option maxRecDepth 100000 in
theorem rx_143_495 {X : pm_X} {o0 o1 o2 o3 : Option pm_V} {M : pm_M} {st : List pm_V} : pm_Rc X 143 (495, [o0, o1, o2, o3], st, M) = pm_Rc X 143 (496, [o0, o1, o2, o3], pm_i (nI 1) :: st, M) := pm_R_go rfl
set_option maxRecDepth 100000 in
theorem rx_143_496 {X : pm_X} {o0 o1 o2 o3 : Option pm_V} {M : pm_M} {st : List pm_V} {a b : Int32} : pm_Rc X 143 (496, [o0, o1, o2, o3], pm_i b :: pm_i a :: st, M) = pm_Rc X 143 (497, [o0, o1, o2, o3], pm_i (a + b) :: st, M) := pm_R_go rfl
set_option maxRecDepth 100000 in
theorem rx_143_497 {X : pm_X} {o0 o1 o2 o3 : Option pm_V} {M : pm_M} {st : List pm_V} {x : Int32} {z : Nat} : pm_Rc X 143 (497, [o0, o1, o2, o3], pm_i x :: pm_r z :: st, M) = (pm_ald X z x M).bind (fun v => pm_Rc X 143 (498, [o0, o1, o2, o3], pm_i v :: st, M)) := pm_R_ald rfl
set_option maxRecDepth 100000 in
theorem rx_143_498 {X : pm_X} {o1 o2 o3 : Option pm_V} {M : pm_M} {st : List pm_V} {x : Nat} : pm_Rc X 143 (498, [some (pm_r x), o1, o2, o3], st, M) = pm_Rc X 143 (499, [some (pm_r x), o1, o2, o3], pm_r x :: st, M) := pm_R_go rfl
set_option maxRecDepth 100000 in
theorem rx_143_499 {X : pm_X} {o0 o1 o2 : Option pm_V} {M : pm_M} {st : List pm_V} {x : Int32} : pm_Rc X 143 (499, [o0, o1, o2, some (pm_i x)], st, M) = pm_Rc X 143 (500, [o0, o1, o2, some (pm_i x)], pm_i x :: st, M) := pm_R_go rfl
set_option maxRecDepth 100000 in
theorem rx_143_500 {X : pm_X} {o0 o1 o2 o3 : Option pm_V} {M : pm_M} {st : List pm_V} : pm_Rc X 143 (500, [o0, o1, o2, o3], st, M) = pm_Rc X 143 (501, [o0, o1, o2, o3], pm_i (nI 2) :: st, M) := pm_R_go rfl
set_option maxRecDepth 100000 in
theorem rx_143_501 {X : pm_X} {o0 o1 o2 o3 : Option pm_V} {M : pm_M} {st : List pm_V} {a b : Int32} : pm_Rc X 143 (501, [o0, o1, o2, o3], pm_i b :: pm_i a :: st, M) = pm_Rc X 143 (502, [o0, o1, o2, o3], pm_i (a + b) :: st, M) := pm_R_go rfl
set_option maxRecDepth 100000 in
theorem rx_143_502 {X : pm_X} {o0 o1 o2 o3 : Option pm_V} {M : pm_M} {st : List pm_V} {x : Int32} {z : Nat} : pm_Rc X 143 (502, [o0, o1, o2, o3], pm_i x :: pm_r z :: st, M) = (pm_ald X z x M).bind (fun v => pm_Rc X 143 (503, [o0, o1, o2, o3], pm_i v :: st, M)) := pm_R_ald rfl
set_option maxRecDepth 100000 in
theorem rx_143_503 {X : pm_X} {o1 o2 o3 : Option pm_V} {M : pm_M} {st : List pm_V} {x : Nat} : pm_Rc X 143 (503, [some (pm_r x), o1, o2, o3], st, M) = pm_Rc X 143 (504, [some (pm_r x), o1, o2, o3], pm_r x :: st, M) := pm_R_go rfl
set_option maxRecDepth 100000 in
theorem rx_143_504 {X : pm_X} {o0 o1 o2 : Option pm_V} {M : pm_M} {st : List pm_V} {x : Int32} : pm_Rc X 143 (504, [o0, o1, o2, some (pm_i x)], st, M) = pm_Rc X 143 (505, [o0, o1, o2, some (pm_i x)], pm_i x :: st, M) := pm_R_go rfl
set_option maxRecDepth 100000 in
theorem rx_143_505 {X : pm_X} {o0 o1 o2 o3 : Option pm_V} {M : pm_M} {st : List pm_V} : pm_Rc X 143 (505, [o0, o1, o2, o3], st, M) = pm_Rc X 143 (506, [o0, o1, o2, o3], pm_i (nI 3) :: st, M) := pm_R_go rfl
set_option maxRecDepth 100000 in
theorem rx_143_506 {X : pm_X} {o0 o1 o2 o3 : Option pm_V} {M : pm_M} {st : List pm_V} {a b : Int32} : pm_Rc X 143 (506, [o0, o1, o2, o3], pm_i b :: pm_i a :: st, M) = pm_Rc X 143 (507, [o0, o1, o2, o3], pm_i (a + b) :: st, M) := pm_R_go rfl
set_option maxRecDepth 100000 in
theorem rx_143_507 {X : pm_X} {o0 o1 o2 o3 : Option pm_V} {M : pm_M} {st : List pm_V} {x : Int32} {z : Nat} : pm_Rc X 143 (507, [o0, o1, o2, o3], pm_i x :: pm_r z :: st, M) = (pm_ald X z x M).bind (fun v => pm_Rc X 143 (508, [o0, o1, o2, o3], pm_i v :: st, M)) := pm_R_ald rfl
set_option maxRecDepth 100000 in
theorem rx_143_508 {X : pm_X} {o1 o2 o3 : Option pm_V} {M : pm_M} {st : List pm_V} {x : Nat} : pm_Rc X 143 (508, [some (pm_r x), o1, o2, o3], st, M) = pm_Rc X 143 (509, [some (pm_r x), o1, o2, o3], pm_r x :: st, M) := pm_R_go rfl
set_option maxRecDepth 100000 in
theorem rx_143_509 {X : pm_X} {o0 o1 o2 : Option pm_V} {M : pm_M} {st : List pm_V} {x : Int32} : pm_Rc X 143 (509, [o0, o1, o2, some (pm_i x)], st, M) = pm_Rc X 143 (510, [o0, o1, o2, some (pm_i x)], pm_i x :: st, M) := pm_R_go rfl
set_option maxRecDepth 100000 in
theorem rx_143_510 {X : pm_X} {o0 o1 o2 o3 : Option pm_V} {M : pm_M} {st : List pm_V} : pm_Rc X 143 (510, [o0, o1, o2, o3], st, M) = pm_Rc X 143 (511, [o0, o1, o2, o3], pm_i (nI 4) :: st, M) := pm_R_go rfl
set_option maxRecDepth 100000 in
theorem rx_143_511 {X : pm_X} {o0 o1 o2 o3 : Option pm_V} {M : pm_M} {st : List pm_V} {a b : Int32} : pm_Rc X 143 (511, [o0, o1, o2, o3], pm_i b :: pm_i a :: st, M) = pm_Rc X 143 (512, [o0, o1, o2, o3], pm_i (a + b) :: st, M) := pm_R_go rfl
set_option maxRecDepth 100000 in
theorem rx_143_512 {X : pm_X} {o0 o1 o2 o3 : Option pm_V} {M : pm_M} {st : List pm_V} {x : Int32} {z : Nat} : pm_Rc X 143 (512, [o0, o1, o2, o3], pm_i x :: pm_r z :: st, M) = (pm_ald X z x M).bind (fun v => pm_Rc X 143 (513, [o0, o1, o2, o3], pm_i v :: st, M)) := pm_R_ald rfl
set_option maxRecDepth 100000 in
theorem rx_143_513 {X : pm_X} {o1 o2 o3 : Option pm_V} {M : pm_M} {st : List pm_V} {x : Nat} : pm_Rc X 143 (513, [some (pm_r x), o1, o2, o3], st, M) = pm_Rc X 143 (514, [some (pm_r x), o1, o2, o3], pm_r x :: st, M) := pm_R_go rfl
set_option maxRecDepth 100000 in
theorem rx_143_514 {X : pm_X} {o0 o1 o2 : Option pm_V} {M : pm_M} {st : List pm_V} {x : Int32} : pm_Rc X 143 (514, [o0, o1, o2, some (pm_i x)], st, M) = pm_Rc X 143 (515, [o0, o1, o2, some (pm_i x)], pm_i x :: st, M) := pm_R_go rfl
set_option maxRecDepth 100000 in
theorem rx_143_515 {X : pm_X} {o0 o1 o2 o3 : Option pm_V} {M : pm_M} {st : List pm_V} : pm_Rc X 143 (515, [o0, o1, o2, o3], st, M) = pm_Rc X 143 (516, [o0, o1, o2, o3], pm_i (nI 5) :: st, M) := pm_R_go rfl
set_option maxRecDepth 100000 in
theorem rx_143_516 {X : pm_X} {o0 o1 o2 o3 : Option pm_V} {M : pm_M} {st : List pm_V} {a b : Int32} : pm_Rc X 143 (516, [o0, o1, o2, o3], pm_i b :: pm_i a :: st, M) = pm_Rc X 143 (517, [o0, o1, o2, o3], pm_i (a + b) :: st, M) := pm_R_go rfl
set_option maxRecDepth 100000 in
theorem rx_143_517 {X : pm_X} {o0 o1 o2 o3 : Option pm_V} {M : pm_M} {st : List pm_V} {x : Int32} {z : Nat} : pm_Rc X 143 (517, [o0, o1, o2, o3], pm_i x :: pm_r z :: st, M) = (pm_ald X z x M).bind (fun v => pm_Rc X 143 (518, [o0, o1, o2, o3], pm_i v :: st, M)) := pm_R_ald rfl
set_option maxRecDepth 100000 in
theorem rx_143_518 {X : pm_X} {o0 o1 o2 o3 : Option pm_V} {M : pm_M} {a0 : Int32} {a1 : Int32} {a2 : Int32} {a3 : Int32} {a4 : Int32} : pm_Rc X 143 (518, [o0, o1, o2, o3], [pm_i a4, pm_i a3, pm_i a2, pm_i a1, pm_i a0, pm_r 0], M) = (pm_Rc pm_X0 46 (0, [some (pm_r 0), some (pm_i a0), some (pm_i a1), some (pm_i a2), some (pm_i a3), some (pm_i a4)], [], M)).bind (fun r => pm_Rc X 143 (521, [o0, o1, o2, o3], pm_psh r.1 [], r.2)) := pm_R_call rfl (Nat.le_of_ble_eq_true rfl) rfl
set_option maxRecDepth 100000 in
theorem rx_143_521 {X : pm_X} {o0 o1 o3 : Option pm_V} {M : pm_M} {st : List pm_V} {x : Nat} : pm_Rc X 143 (521, [o0, o1, some (pm_r x), o3], st, M) = pm_Rc X 143 (522, [o0, o1, some (pm_r x), o3], pm_r x :: st, M) := pm_R_go rfl
set_option maxRecDepth 100000 in
theorem rx_143_522 {X : pm_X} {o1 o2 o3 : Option pm_V} {M : pm_M} {st : List pm_V} {x : Nat} : pm_Rc X 143 (522, [some (pm_r x), o1, o2, o3], st, M) = pm_Rc X 143 (523, [some (pm_r x), o1, o2, o3], pm_r x :: st, M) := pm_R_go rfl
set_option maxRecDepth 100000 in
theorem rx_143_523 {X : pm_X} {o0 o1 o2 : Option pm_V} {M : pm_M} {st : List pm_V} {x : Int32} : pm_Rc X 143 (523, [o0, o1, o2, some (pm_i x)], st, M) = pm_Rc X 143 (524, [o0, o1, o2, some (pm_i x)], pm_i x :: st, M) := pm_R_go rfl
set_option maxRecDepth 100000 in
theorem rx_143_524 {X : pm_X} {o0 o1 o2 o3 : Option pm_V} {M : pm_M} {st : List pm_V} : pm_Rc X 143 (524, [o0, o1, o2, o3], st, M) = pm_Rc X 143 (525, [o0, o1, o2, o3], pm_i (nI 1) :: st, M) := pm_R_go rfl
set_option maxRecDepth 100000 in
theorem rx_143_525 {X : pm_X} {o0 o1 o2 o3 : Option pm_V} {M : pm_M} {st : List pm_V} {a b : Int32} : pm_Rc X 143 (525, [o0, o1, o2, o3], pm_i b :: pm_i a :: st, M) = pm_Rc X 143 (526, [o0, o1, o2, o3], pm_i (a + b) :: st, M) := pm_R_go rfl
set_option maxRecDepth 100000 in
theorem rx_143_526 {X : pm_X} {o0 o1 o2 o3 : Option pm_V} {M : pm_M} {st : List pm_V} {x : Int32} {z : Nat} : pm_Rc X 143 (526, [o0, o1, o2, o3], pm_i x :: pm_r z :: st, M) = (pm_ald X z x M).bind (fun v => pm_Rc X 143 (527, [o0, o1, o2, o3], pm_i v :: st, M)) := pm_R_ald rfl
set_option maxRecDepth 100000 in
theorem rx_143_527 {X : pm_X} {o1 o2 o3 : Option pm_V} {M : pm_M} {st : List pm_V} {x : Nat} : pm_Rc X 143 (527, [some (pm_r x), o1, o2, o3], st, M) = pm_Rc X 143 (528, [some (pm_r x), o1, o2, o3], pm_r x :: st, M) := pm_R_go rfl
set_option maxRecDepth 100000 in
theorem rx_143_528 {X : pm_X} {o0 o1 o2 : Option pm_V} {M : pm_M} {st : List pm_V} {x : Int32} : pm_Rc X 143 (528, [o0, o1, o2, some (pm_i x)], st, M) = pm_Rc X 143 (529, [o0, o1, o2, some (pm_i x)], pm_i x :: st, M) := pm_R_go rfl
set_option maxRecDepth 100000 in
theorem rx_143_529 {X : pm_X} {o0 o1 o2 o3 : Option pm_V} {M : pm_M} {st : List pm_V} : pm_Rc X 143 (529, [o0, o1, o2, o3], st, M) = pm_Rc X 143 (530, [o0, o1, o2, o3], pm_i (nI 2) :: st, M) := pm_R_go rfl
set_option maxRecDepth 100000 in
theorem rx_143_530 {X : pm_X} {o0 o1 o2 o3 : Option pm_V} {M : pm_M} {st : List pm_V} {a b : Int32} : pm_Rc X 143 (530, [o0, o1, o2, o3], pm_i b :: pm_i a :: st, M) = pm_Rc X 143 (531, [o0, o1, o2, o3], pm_i (a + b) :: st, M) := pm_R_go rfl
set_option maxRecDepth 100000 in
theorem rx_143_531 {X : pm_X} {o0 o1 o2 o3 : Option pm_V} {M : pm_M} {st : List pm_V} {x : Int32} {z : Nat} : pm_Rc X 143 (531, [o0, o1, o2, o3], pm_i x :: pm_r z :: st, M) = (pm_ald X z x M).bind (fun v => pm_Rc X 143 (532, [o0, o1, o2, o3], pm_i v :: st, M)) := pm_R_ald rfl
set_option maxRecDepth 100000 in
theorem rx_143_532 {X : pm_X} {o1 o2 o3 : Option pm_V} {M : pm_M} {st : List pm_V} {x : Nat} : pm_Rc X 143 (532, [some (pm_r x), o1, o2, o3], st, M) = pm_Rc X 143 (533, [some (pm_r x), o1, o2, o3], pm_r x :: st, M) := pm_R_go rfl
set_option maxRecDepth 100000 in
theorem rx_143_533 {X : pm_X} {o0 o1 o2 : Option pm_V} {M : pm_M} {st : List pm_V} {x : Int32} : pm_Rc X 143 (533, [o0, o1, o2, some (pm_i x)], st, M) = pm_Rc X 143 (534, [o0, o1, o2, some (pm_i x)], pm_i x :: st, M) := pm_R_go rfl
set_option maxRecDepth 100000 in
theorem rx_143_534 {X : pm_X} {o0 o1 o2 o3 : Option pm_V} {M : pm_M} {st : List pm_V} : pm_Rc X 143 (534, [o0, o1, o2, o3], st, M) = pm_Rc X 143 (535, [o0, o1, o2, o3], pm_i (nI 3) :: st, M) := pm_R_go rfl
set_option maxRecDepth 100000 in
theorem rx_143_535 {X : pm_X} {o0 o1 o2 o3 : Option pm_V} {M : pm_M} {st : List pm_V} {a b : Int32} : pm_Rc X 143 (535, [o0, o1, o2, o3], pm_i b :: pm_i a :: st, M) = pm_Rc X 143 (536, [o0, o1, o2, o3], pm_i (a + b) :: st, M) := pm_R_go rfl
set_option maxRecDepth 100000 in
theorem rx_143_536 {X : pm_X} {o0 o1 o2 o3 : Option pm_V} {M : pm_M} {st : List pm_V} {x : Int32} {z : Nat} : pm_Rc X 143 (536, [o0, o1, o2, o3], pm_i x :: pm_r z :: st, M) = (pm_ald X z x M).bind (fun v => pm_Rc X 143 (537, [o0, o1, o2, o3], pm_i v :: st, M)) := pm_R_ald rfl
set_option maxRecDepth 100000 in
theorem rx_143_537 {X : pm_X} {o1 o2 o3 : Option pm_V} {M : pm_M} {st : List pm_V} {x : Nat} : pm_Rc X 143 (537, [some (pm_r x), o1, o2, o3], st, M) = pm_Rc X 143 (538, [some (pm_r x), o1, o2, o3], pm_r x :: st, M) := pm_R_go rfl
set_option maxRecDepth 100000 in
theorem rx_143_538 {X : pm_X} {o0 o1 o2 : Option pm_V} {M : pm_M} {st : List pm_V} {x : Int32} : pm_Rc X 143 (538, [o0, o1, o2, some (pm_i x)], st, M) = pm_Rc X 143 (539, [o0, o1, o2, some (pm_i x)], pm_i x :: st, M) := pm_R_go rfl
set_option maxRecDepth 100000 in
theorem rx_143_539 {X : pm_X} {o0 o1 o2 o3 : Option pm_V} {M : pm_M} {st : List pm_V} : pm_Rc X 143 (539, [o0, o1, o2, o3], st, M) = pm_Rc X 143 (540, [o0, o1, o2, o3], pm_i (nI 4) :: st, M) := pm_R_go rfl
set_option maxRecDepth 100000 in
theorem rx_143_540 {X : pm_X} {o0 o1 o2 o3 : Option pm_V} {M : pm_M} {st : List pm_V} {a b : Int32} : pm_Rc X 143 (540, [o0, o1, o2, o3], pm_i b :: pm_i a :: st, M) = pm_Rc X 143 (541, [o0, o1, o2, o3], pm_i (a + b) :: st, M) := pm_R_go rfl
set_option maxRecDepth 100000 in
theorem rx_143_541 {X : pm_X} {o0 o1 o2 o3 : Option pm_V} {M : pm_M} {st : List pm_V} {x : Int32} {z : Nat} : pm_Rc X 143 (541, [o0, o1, o2, o3], pm_i x :: pm_r z :: st, M) = (pm_ald X z x M).bind (fun v => pm_Rc X 143 (542, [o0, o1, o2, o3], pm_i v :: st, M)) := pm_R_ald rfl
set_option maxRecDepth 100000 in
theorem rx_143_542 {X : pm_X} {o1 o2 o3 : Option pm_V} {M : pm_M} {st : List pm_V} {x : Nat} : pm_Rc X 143 (542, [some (pm_r x), o1, o2, o3], st, M) = pm_Rc X 143 (543, [some (pm_r x), o1, o2, o3], pm_r x :: st, M) := pm_R_go rfl
set_option maxRecDepth 100000 in
theorem rx_143_543 {X : pm_X} {o0 o1 o2 : Option pm_V} {M : pm_M} {st : List pm_V} {x : Int32} : pm_Rc X 143 (543, [o0, o1, o2, some (pm_i x)], st, M) = pm_Rc X 143 (544, [o0, o1, o2, some (pm_i x)], pm_i x :: st, M) := pm_R_go rfl
set_option maxRecDepth 100000 in
theorem rx_143_544 {X : pm_X} {o0 o1 o2 o3 : Option pm_V} {M : pm_M} {st : List pm_V} : pm_Rc X 143 (544, [o0, o1, o2, o3], st, M) = pm_Rc X 143 (545, [o0, o1, o2, o3], pm_i (nI 5) :: st, M) := pm_R_go rfl
set_option maxRecDepth 100000 in
theorem rx_143_545 {X : pm_X} {o0 o1 o2 o3 : Option pm_V} {M : pm_M} {st : List pm_V} {a b : Int32} : pm_Rc X 143 (545, [o0, o1, o2, o3], pm_i b :: pm_i a :: st, M) = pm_Rc X 143 (546, [o0, o1, o2, o3], pm_i (a + b) :: st, M) := pm_R_go rfl
set_option maxRecDepth 100000 in
theorem rx_143_546 {X : pm_X} {o0 o1 o2 o3 : Option pm_V} {M : pm_M} {st : List pm_V} {x : Int32} {z : Nat} : pm_Rc X 143 (546, [o0, o1, o2, o3], pm_i x :: pm_r z :: st, M) = (pm_ald X z x M).bind (fun v => pm_Rc X 143 (547, [o0, o1, o2, o3], pm_i v :: st, M)) := pm_R_ald rfl
set_option maxRecDepth 100000 in
theorem rx_143_547 {X : pm_X} {o0 o1 o2 o3 : Option pm_V} {M : pm_M} {a0 : Int32} {a1 : Int32} {a2 : Int32} {a3 : Int32} {a4 : Int32} {w0 : pm_V} : pm_Rc X 143 (547, [o0, o1, o2, o3], [pm_i a4, pm_i a3, pm_i a2, pm_i a1, pm_i a0, pm_r 23, w0], M) = (pm_Rc pm_X0 111 (0, [some (pm_r 23), some (pm_i a0), some (pm_i a1), some (pm_i a2), some (pm_i a3), some (pm_i a4), none, none, none], [], M)).bind (fun r => pm_Rc X 143 (550, [o0, o1, o2, o3], pm_psh r.1 [w0], r.2)) := pm_R_call rfl (Nat.le_of_ble_eq_true rfl) rfl
set_option maxRecDepth 100000 in
theorem rx_143_550 {X : pm_X} {o0 o1 o2 o3 : Option pm_V} {M : pm_M} {st : List pm_V} {a b : Int32} : pm_Rc X 143 (550, [o0, o1, o2, o3], pm_i b :: pm_i a :: st, M) = if a = b then pm_Rc X 143 (1117, [o0, o1, o2, o3], st, M) else pm_Rc X 143 (553, [o0, o1, o2, o3], st, M) := pm_R_iceq rfl
set_option maxRecDepth 100000 in
theorem rx_143_553 {X : pm_X} {o0 o1 o2 o3 : Option pm_V} {M : pm_M} {st : List pm_V} : pm_Rc X 143 (553, [o0, o1, o2, o3], st, M) = pm_Rc X 143 (554, [o0, o1, o2, o3], pm_i (nI 0) :: st, M) := pm_R_go rfl
set_option maxRecDepth 100000 in
theorem rx_143_554_0 {X : pm_X} {o0 o1 o2 o3 : Option pm_V} {M : pm_M} : pm_Rc X 143 (554, [o0, o1, o2, o3], [pm_i (nI 0)], M) = some (some (pm_i (nI 0)), M) := pm_R_ret rfl
set_option maxRecDepth 100000 in
theorem rx_143_554_1 {X : pm_X} {o0 o1 o2 o3 : Option pm_V} {M : pm_M} : pm_Rc X 143 (554, [o0, o1, o2, o3], [pm_i (nI 1)], M) = some (some (pm_i (nI 1)), M) := pm_R_ret rfl
set_option maxRecDepth 100000 in
theorem rx_143_555 {X : pm_X} {o0 o2 o3 : Option pm_V} {M : pm_M} {st : List pm_V} {x : Nat} : pm_Rc X 143 (555, [o0, some (pm_r x), o2, o3], st, M) = pm_Rc X 143 (556, [o0, some (pm_r x), o2, o3], pm_r x :: st, M) := pm_R_go rfl
set_option maxRecDepth 100000 in
theorem rx_143_556 {X : pm_X} {o0 o1 o2 o3 : Option pm_V} {M : pm_M} : pm_Rc X 143 (556, [o0, o1, o2, o3], [pm_r 0], M) = (pm_Rc pm_X0 51 (0, [some (pm_r 0), none, none], [], M)).bind (fun r => pm_Rc X 143 (559, [o0, o1, o2, o3], pm_psh r.1 [], r.2)) := pm_R_call rfl (Nat.le_of_ble_eq_true rfl) rfl
set_option maxRecDepth 100000 in
theorem rx_143_559 {X : pm_X} {o0 o1 o3 : Option pm_V} {M : pm_M} {st : List pm_V} {x : Nat} : pm_Rc X 143 (559, [o0, o1, some (pm_r x), o3], st, M) = pm_Rc X 143 (560, [o0, o1, some (pm_r x), o3], pm_r x :: st, M) := pm_R_go rfl
set_option maxRecDepth 100000 in
theorem rx_143_560 {X : pm_X} {o0 o1 o2 o3 : Option pm_V} {M : pm_M} {w0 : pm_V} : pm_Rc X 143 (560, [o0, o1, o2, o3], [pm_r 23, w0], M) = (pm_Rc pm_X0 114 (0, [some (pm_r 23), none, none], [], M)).bind (fun r => pm_Rc X 143 (563, [o0, o1, o2, o3], pm_psh r.1 [w0], r.2)) := pm_R_call rfl (Nat.le_of_ble_eq_true rfl) rfl
set_option maxRecDepth 100000 in
theorem rx_143_563 {X : pm_X} {o0 o1 o2 o3 : Option pm_V} {M : pm_M} {st : List pm_V} {a b : Int32} : pm_Rc X 143 (563, [o0, o1, o2, o3], pm_i b :: pm_i a :: st, M) = if a = b then pm_Rc X 143 (1117, [o0, o1, o2, o3], st, M) else pm_Rc X 143 (566, [o0, o1, o2, o3], st, M) := pm_R_iceq rfl
set_option maxRecDepth 100000 in
theorem rx_143_566 {X : pm_X} {o0 o1 o2 o3 : Option pm_V} {M : pm_M} {st : List pm_V} : pm_Rc X 143 (566, [o0, o1, o2, o3], st, M) = pm_Rc X 143 (567, [o0, o1, o2, o3], pm_i (nI 0) :: st, M) := pm_R_go rfl
set_option maxRecDepth 100000 in
theorem rx_143_567_0 {X : pm_X} {o0 o1 o2 o3 : Option pm_V} {M : pm_M} : pm_Rc X 143 (567, [o0, o1, o2, o3], [pm_i (nI 0)], M) = some (some (pm_i (nI 0)), M) := pm_R_ret rfl
set_option maxRecDepth 100000 in
theorem rx_143_567_1 {X : pm_X} {o0 o1 o2 o3 : Option pm_V} {M : pm_M} : pm_Rc X 143 (567, [o0, o1, o2, o3], [pm_i (nI 1)], M) = some (some (pm_i (nI 1)), M) := pm_R_ret rfl
set_option maxRecDepth 100000 in
theorem rx_143_568 {X : pm_X} {o0 o2 o3 : Option pm_V} {M : pm_M} {st : List pm_V} {x : Nat} : pm_Rc X 143 (568, [o0, some (pm_r x), o2, o3], st, M) = pm_Rc X 143 (569, [o0, some (pm_r x), o2, o3], pm_r x :: st, M) := pm_R_go rfl
set_option maxRecDepth 100000 in
theorem rx_143_569 {X : pm_X} {o0 o1 o2 o3 : Option pm_V} {M : pm_M} : pm_Rc X 143 (569, [o0, o1, o2, o3], [pm_r 0], M) = (pm_Rc pm_X0 53 (0, [some (pm_r 0), none, none, none, none], [], M)).bind (fun r => pm_Rc X 143 (572, [o0, o1, o2, o3], pm_psh r.1 [], r.2)) := pm_R_call rfl (Nat.le_of_ble_eq_true rfl) rfl
set_option maxRecDepth 100000 in
theorem rx_143_572 {X : pm_X} {o0 o1 o3 : Option pm_V} {M : pm_M} {st : List pm_V} {x : Nat} : pm_Rc X 143 (572, [o0, o1, some (pm_r x), o3], st, M) = pm_Rc X 143 (573, [o0, o1, some (pm_r x), o3], pm_r x :: st, M) := pm_R_go rfl
set_option maxRecDepth 100000 in
theorem rx_143_573 {X : pm_X} {o0 o1 o2 o3 : Option pm_V} {M : pm_M} {w0 : pm_V} : pm_Rc X 143 (573, [o0, o1, o2, o3], [pm_r 23, w0], M) = (pm_Rc pm_X0 116 (0, [some (pm_r 23), none, none, none, none], [], M)).bind (fun r => pm_Rc X 143 (576, [o0, o1, o2, o3], pm_psh r.1 [w0], r.2)) := pm_R_call rfl (Nat.le_of_ble_eq_true rfl) rfl
set_option maxRecDepth 100000 in
theorem rx_143_576 {X : pm_X} {o0 o1 o2 o3 : Option pm_V} {M : pm_M} {st : List pm_V} {a b : Int32} : pm_Rc X 143 (576, [o0, o1, o2, o3], pm_i b :: pm_i a :: st, M) = if a = b then pm_Rc X 143 (1117, [o0, o1, o2, o3], st, M) else pm_Rc X 143 (579, [o0, o1, o2, o3], st, M) := pm_R_iceq rfl
set_option maxRecDepth 100000 in
theorem rx_143_579 {X : pm_X} {o0 o1 o2 o3 : Option pm_V} {M : pm_M} {st : List pm_V} : pm_Rc X 143 (579, [o0, o1, o2, o3], st, M) = pm_Rc X 143 (580, [o0, o1, o2, o3], pm_i (nI 0) :: st, M) := pm_R_go rfl
set_option maxRecDepth 100000 in
theorem rx_143_580_0 {X : pm_X} {o0 o1 o2 o3 : Option pm_V} {M : pm_M} : pm_Rc X 143 (580, [o0, o1, o2, o3], [pm_i (nI 0)], M) = some (some (pm_i (nI 0)), M) := pm_R_ret rfl
set_option maxRecDepth 100000 in
theorem rx_143_580_1 {X : pm_X} {o0 o1 o2 o3 : Option pm_V} {M : pm_M} : pm_Rc X 143 (580, [o0, o1, o2, o3], [pm_i (nI 1)], M) = some (some (pm_i (nI 1)), M) := pm_R_ret rfl
set_option maxRecDepth 100000 in
theorem rx_143_581 {X : pm_X} {o0 o2 o3 : Option pm_V} {M : pm_M} {st : List pm_V} {x : Nat} : pm_Rc X 143 (581, [o0, some (pm_r x), o2, o3], st, M) = pm_Rc X 143 (582, [o0, some (pm_r x), o2, o3], pm_r x :: st, M) := pm_R_go rfl
set_option maxRecDepth 100000 in
theorem rx_143_582 {X : pm_X} {o1 o2 o3 : Option pm_V} {M : pm_M} {st : List pm_V} {x : Nat} : pm_Rc X 143 (582, [some (pm_r x), o1, o2, o3], st, M) = pm_Rc X 143 (583, [some (pm_r x), o1, o2, o3], pm_r x :: st, M) := pm_R_go rfl
set_option maxRecDepth 100000 in
theorem rx_143_583 {X : pm_X} {o0 o1 o2 : Option pm_V} {M : pm_M} {st : List pm_V} {x : Int32} : pm_Rc X 143 (583, [o0, o1, o2, some (pm_i x)], st, M) = pm_Rc X 143 (584, [o0, o1, o2, some (pm_i x)], pm_i x :: st, M) := pm_R_go rfl
set_option maxRecDepth 100000 in
theorem rx_143_584 {X : pm_X} {o0 o1 o2 o3 : Option pm_V} {M : pm_M} {st : List pm_V} : pm_Rc X 143 (584, [o0, o1, o2, o3], st, M) = pm_Rc X 143 (585, [o0, o1, o2, o3], pm_i (nI 1) :: st, M) := pm_R_go rfl
set_option maxRecDepth 100000 in
theorem rx_143_585 {X : pm_X} {o0 o1 o2 o3 : Option pm_V} {M : pm_M} {st : List pm_V} {a b : Int32} : pm_Rc X 143 (585, [o0, o1, o2, o3], pm_i b :: pm_i a :: st, M) = pm_Rc X 143 (586, [o0, o1, o2, o3], pm_i (a + b) :: st, M) := pm_R_go rfl
set_option maxRecDepth 100000 in
theorem rx_143_586 {X : pm_X} {o0 o1 o2 o3 : Option pm_V} {M : pm_M} {st : List pm_V} {x : Int32} {z : Nat} : pm_Rc X 143 (586, [o0, o1, o2, o3], pm_i x :: pm_r z :: st, M) = (pm_ald X z x M).bind (fun v => pm_Rc X 143 (587, [o0, o1, o2, o3], pm_i v :: st, M)) := pm_R_ald rfl
set_option maxRecDepth 100000 in
theorem rx_143_587 {X : pm_X} {o0 o1 o2 o3 : Option pm_V} {M : pm_M} {a0 : Int32} : pm_Rc X 143 (587, [o0, o1, o2, o3], [pm_i a0, pm_r 0], M) = (pm_Rc pm_X0 54 (0, [some (pm_r 0), some (pm_i a0), none, none], [], M)).bind (fun r => pm_Rc X 143 (590, [o0, o1, o2, o3], pm_psh r.1 [], r.2)) := pm_R_call rfl (Nat.le_of_ble_eq_true rfl) rfl
set_option maxRecDepth 100000 in
theorem rx_143_590 {X : pm_X} {o0 o1 o3 : Option pm_V} {M : pm_M} {st : List pm_V} {x : Nat} : pm_Rc X 143 (590, [o0, o1, some (pm_r x), o3], st, M) = pm_Rc X 143 (591, [o0, o1, some (pm_r x), o3], pm_r x :: st, M) := pm_R_go rfl
set_option maxRecDepth 100000 in
theorem rx_143_591 {X : pm_X} {o1 o2 o3 : Option pm_V} {M : pm_M} {st : List pm_V} {x : Nat} : pm_Rc X 143 (591, [some (pm_r x), o1, o2, o3], st, M) = pm_Rc X 143 (592, [some (pm_r x), o1, o2, o3], pm_r x :: st, M) := pm_R_go rfl
set_option maxRecDepth 100000 in
theorem rx_143_592 {X : pm_X} {o0 o1 o2 : Option pm_V} {M : pm_M} {st : List pm_V} {x : Int32} : pm_Rc X 143 (592, [o0, o1, o2, some (pm_i x)], st, M) = pm_Rc X 143 (593, [o0, o1, o2, some (pm_i x)], pm_i x :: st, M) := pm_R_go rfl
set_option maxRecDepth 100000 in
theorem rx_143_593 {X : pm_X} {o0 o1 o2 o3 : Option pm_V} {M : pm_M} {st : List pm_V} : pm_Rc X 143 (593, [o0, o1, o2, o3], st, M) = pm_Rc X 143 (594, [o0, o1, o2, o3], pm_i (nI 1) :: st, M) := pm_R_go rfl
set_option maxRecDepth 100000 in
theorem rx_143_594 {X : pm_X} {o0 o1 o2 o3 : Option pm_V} {M : pm_M} {st : List pm_V} {a b : Int32} : pm_Rc X 143 (594, [o0, o1, o2, o3], pm_i b :: pm_i a :: st, M) = pm_Rc X 143 (595, [o0, o1, o2, o3], pm_i (a + b) :: st, M) := pm_R_go rfl
set_option maxRecDepth 100000 in
theorem rx_143_595 {X : pm_X} {o0 o1 o2 o3 : Option pm_V} {M : pm_M} {st : List pm_V} {x : Int32} {z : Nat} : pm_Rc X 143 (595, [o0, o1, o2, o3], pm_i x :: pm_r z :: st, M) = (pm_ald X z x M).bind (fun v => pm_Rc X 143 (596, [o0, o1, o2, o3], pm_i v :: st, M)) := pm_R_ald rfl
set_option maxRecDepth 100000 in
theorem rx_143_596 {X : pm_X} {o0 o1 o2 o3 : Option pm_V} {M : pm_M} {a0 : Int32} {w0 : pm_V} : pm_Rc X 143 (596, [o0, o1, o2, o3], [pm_i a0, pm_r 23, w0], M) = (pm_Rc pm_X0 117 (0, [some (pm_r 23), some (pm_i a0), none, none], [], M)).bind (fun r => pm_Rc X 143 (599, [o0, o1, o2, o3], pm_psh r.1 [w0], r.2)) := pm_R_call rfl (Nat.le_of_ble_eq_true rfl) rfl
set_option maxRecDepth 100000 in
theorem rx_143_599 {X : pm_X} {o0 o1 o2 o3 : Option pm_V} {M : pm_M} {st : List pm_V} {a b : Int32} : pm_Rc X 143 (599, [o0, o1, o2, o3], pm_i b :: pm_i a :: st, M) = if a = b then pm_Rc X 143 (1117, [o0, o1, o2, o3], st, M) else pm_Rc X 143 (602, [o0, o1, o2, o3], st, M) := pm_R_iceq rfl
set_option maxRecDepth 100000 in
theorem rx_143_602 {X : pm_X} {o0 o1 o2 o3 : Option pm_V} {M : pm_M} {st : List pm_V} : pm_Rc X 143 (602, [o0, o1, o2, o3], st, M) = pm_Rc X 143 (603, [o0, o1, o2, o3], pm_i (nI 0) :: st, M) := pm_R_go rfl
set_option maxRecDepth 100000 in
theorem rx_143_603_0 {X : pm_X} {o0 o1 o2 o3 : Option pm_V} {M : pm_M} : pm_Rc X 143 (603, [o0, o1, o2, o3], [pm_i (nI 0)], M) = some (some (pm_i (nI 0)), M) := pm_R_ret rfl
set_option maxRecDepth 100000 in
theorem rx_143_603_1 {X : pm_X} {o0 o1 o2 o3 : Option pm_V} {M : pm_M} : pm_Rc X 143 (603, [o0, o1, o2, o3], [pm_i (nI 1)], M) = some (some (pm_i (nI 1)), M) := pm_R_ret rfl
set_option maxRecDepth 100000 in
theorem rx_143_604 {X : pm_X} {o0 o2 o3 : Option pm_V} {M : pm_M} {st : List pm_V} {x : Nat} : pm_Rc X 143 (604, [o0, some (pm_r x), o2, o3], st, M) = pm_Rc X 143 (605, [o0, some (pm_r x), o2, o3], pm_r x :: st, M) := pm_R_go rfl
set_option maxRecDepth 100000 in
theorem rx_143_605 {X : pm_X} {o1 o2 o3 : Option pm_V} {M : pm_M} {st : List pm_V} {x : Nat} : pm_Rc X 143 (605, [some (pm_r x), o1, o2, o3], st, M) = pm_Rc X 143 (606, [some (pm_r x), o1, o2, o3], pm_r x :: st, M) := pm_R_go rfl
set_option maxRecDepth 100000 in
theorem rx_143_606 {X : pm_X} {o0 o1 o2 : Option pm_V} {M : pm_M} {st : List pm_V} {x : Int32} : pm_Rc X 143 (606, [o0, o1, o2, some (pm_i x)], st, M) = pm_Rc X 143 (607, [o0, o1, o2, some (pm_i x)], pm_i x :: st, M) := pm_R_go rfl
set_option maxRecDepth 100000 in
theorem rx_143_607 {X : pm_X} {o0 o1 o2 o3 : Option pm_V} {M : pm_M} {st : List pm_V} : pm_Rc X 143 (607, [o0, o1, o2, o3], st, M) = pm_Rc X 143 (608, [o0, o1, o2, o3], pm_i (nI 1) :: st, M) := pm_R_go rfl
set_option maxRecDepth 100000 in
theorem rx_143_608 {X : pm_X} {o0 o1 o2 o3 : Option pm_V} {M : pm_M} {st : List pm_V} {a b : Int32} : pm_Rc X 143 (608, [o0, o1, o2, o3], pm_i b :: pm_i a :: st, M) = pm_Rc X 143 (609, [o0, o1, o2, o3], pm_i (a + b) :: st, M) := pm_R_go rfl
set_option maxRecDepth 100000 in
theorem rx_143_609 {X : pm_X} {o0 o1 o2 o3 : Option pm_V} {M : pm_M} {st : List pm_V} {x : Int32} {z : Nat} : pm_Rc X 143 (609, [o0, o1, o2, o3], pm_i x :: pm_r z :: st, M) = (pm_ald X z x M).bind (fun v => pm_Rc X 143 (610, [o0, o1, o2, o3], pm_i v :: st, M)) := pm_R_ald rfl
set_option maxRecDepth 100000 in
theorem rx_143_610 {X : pm_X} {o1 o2 o3 : Option pm_V} {M : pm_M} {st : List pm_V} {x : Nat} : pm_Rc X 143 (610, [some (pm_r x), o1, o2, o3], st, M) = pm_Rc X 143 (611, [some (pm_r x), o1, o2, o3], pm_r x :: st, M) := pm_R_go rfl
set_option maxRecDepth 100000 in
theorem rx_143_611 {X : pm_X} {o0 o1 o2 : Option pm_V} {M : pm_M} {st : List pm_V} {x : Int32} : pm_Rc X 143 (611, [o0, o1, o2, some (pm_i x)], st, M) = pm_Rc X 143 (612, [o0, o1, o2, some (pm_i x)], pm_i x :: st, M) := pm_R_go rfl
set_option maxRecDepth 100000 in
theorem rx_143_612 {X : pm_X} {o0 o1 o2 o3 : Option pm_V} {M : pm_M} {st : List pm_V} : pm_Rc X 143 (612, [o0, o1, o2, o3], st, M) = pm_Rc X 143 (613, [o0, o1, o2, o3], pm_i (nI 2) :: st, M) := pm_R_go rfl
set_option maxRecDepth 100000 in
theorem rx_143_613 {X : pm_X} {o0 o1 o2 o3 : Option pm_V} {M : pm_M} {st : List pm_V} {a b : Int32} : pm_Rc X 143 (613, [o0, o1, o2, o3], pm_i b :: pm_i a :: st, M) = pm_Rc X 143 (614, [o0, o1, o2, o3], pm_i (a + b) :: st, M) := pm_R_go rfl
set_option maxRecDepth 100000 in
theorem rx_143_614 {X : pm_X} {o0 o1 o2 o3 : Option pm_V} {M : pm_M} {st : List pm_V} {x : Int32} {z : Nat} : pm_Rc X 143 (614, [o0, o1, o2, o3], pm_i x :: pm_r z :: st, M) = (pm_ald X z x M).bind (fun v => pm_Rc X 143 (615, [o0, o1, o2, o3], pm_i v :: st, M)) := pm_R_ald rfl
set_option maxRecDepth 100000 in
theorem rx_143_615 {X : pm_X} {o1 o2 o3 : Option pm_V} {M : pm_M} {st : List pm_V} {x : Nat} : pm_Rc X 143 (615, [some (pm_r x), o1, o2, o3], st, M) = pm_Rc X 143 (616, [some (pm_r x), o1, o2, o3], pm_r x :: st, M) := pm_R_go rfl
set_option maxRecDepth 100000 in
theorem rx_143_616 {X : pm_X} {o0 o1 o2 : Option pm_V} {M : pm_M} {st : List pm_V} {x : Int32} : pm_Rc X 143 (616, [o0, o1, o2, some (pm_i x)], st, M) = pm_Rc X 143 (617, [o0, o1, o2, some (pm_i x)], pm_i x :: st, M) := pm_R_go rfl
set_option maxRecDepth 100000 in
theorem rx_143_617 {X : pm_X} {o0 o1 o2 o3 : Option pm_V} {M : pm_M} {st : List pm_V} : pm_Rc X 143 (617, [o0, o1, o2, o3], st, M) = pm_Rc X 143 (618, [o0, o1, o2, o3], pm_i (nI 3) :: st, M) := pm_R_go rfl
set_option maxRecDepth 100000 in
theorem rx_143_618 {X : pm_X} {o0 o1 o2 o3 : Option pm_V} {M : pm_M} {st : List pm_V} {a b : Int32} : pm_Rc X 143 (618, [o0, o1, o2, o3], pm_i b :: pm_i a :: st, M) = pm_Rc X 143 (619, [o0, o1, o2, o3], pm_i (a + b) :: st, M) := pm_R_go rfl
set_option maxRecDepth 100000 in
theorem rx_143_619 {X : pm_X} {o0 o1 o2 o3 : Option pm_V} {M : pm_M} {st : List pm_V} {x : Int32} {z : Nat} : pm_Rc X 143 (619, [o0, o1, o2, o3], pm_i x :: pm_r z :: st, M) = (pm_ald X z x M).bind (fun v => pm_Rc X 143 (620, [o0, o1, o2, o3], pm_i v :: st, M)) := pm_R_ald rfl
set_option maxRecDepth 100000 in
theorem rx_143_620 {X : pm_X} {o0 o1 o2 o3 : Option pm_V} {M : pm_M} {a0 : Int32} {a1 : Int32} {a2 : Int32} : pm_Rc X 143 (620, [o0, o1, o2, o3], [pm_i a2, pm_i a1, pm_i a0, pm_r 0], M) = (pm_Rc pm_X0 55 (0, [some (pm_r 0), some (pm_i a0), some (pm_i a1), some (pm_i a2)], [], M)).bind (fun r => pm_Rc X 143 (623, [o0, o1, o2, o3], pm_psh r.1 [], r.2)) := pm_R_call rfl (Nat.le_of_ble_eq_true rfl) rfl
set_option maxRecDepth 100000 in
theorem rx_143_623 {X : pm_X} {o0 o1 o3 : Option pm_V} {M : pm_M} {st : List pm_V} {x : Nat} : pm_Rc X 143 (623, [o0, o1, some (pm_r x), o3], st, M) = pm_Rc X 143 (624, [o0, o1, some (pm_r x), o3], pm_r x :: st, M) := pm_R_go rfl
set_option maxRecDepth 100000 in
theorem rx_143_624 {X : pm_X} {o1 o2 o3 : Option pm_V} {M : pm_M} {st : List pm_V} {x : Nat} : pm_Rc X 143 (624, [some (pm_r x), o1, o2, o3], st, M) = pm_Rc X 143 (625, [some (pm_r x), o1, o2, o3], pm_r x :: st, M) := pm_R_go rfl
set_option maxRecDepth 100000 in
theorem rx_143_625 {X : pm_X} {o0 o1 o2 : Option pm_V} {M : pm_M} {st : List pm_V} {x : Int32} : pm_Rc X 143 (625, [o0, o1, o2, some (pm_i x)], st, M) = pm_Rc X 143 (626, [o0, o1, o2, some (pm_i x)], pm_i x :: st, M) := pm_R_go rfl
set_option maxRecDepth 100000 in
theorem rx_143_626 {X : pm_X} {o0 o1 o2 o3 : Option pm_V} {M : pm_M} {st : List pm_V} : pm_Rc X 143 (626, [o0, o1, o2, o3], st, M) = pm_Rc X 143 (627, [o0, o1, o2, o3], pm_i (nI 1) :: st, M) := pm_R_go rfl
set_option maxRecDepth 100000 in
theorem rx_143_627 {X : pm_X} {o0 o1 o2 o3 : Option pm_V} {M : pm_M} {st : List pm_V} {a b : Int32} : pm_Rc X 143 (627, [o0, o1, o2, o3], pm_i b :: pm_i a :: st, M) = pm_Rc X 143 (628, [o0, o1, o2, o3], pm_i (a + b) :: st, M) := pm_R_go rfl
set_option maxRecDepth 100000 in
theorem rx_143_628 {X : pm_X} {o0 o1 o2 o3 : Option pm_V} {M : pm_M} {st : List pm_V} {x : Int32} {z : Nat} : pm_Rc X 143 (628, [o0, o1, o2, o3], pm_i x :: pm_r z :: st, M) = (pm_ald X z x M).bind (fun v => pm_Rc X 143 (629, [o0, o1, o2, o3], pm_i v :: st, M)) := pm_R_ald rfl
set_option maxRecDepth 100000 in
theorem rx_143_629 {X : pm_X} {o1 o2 o3 : Option pm_V} {M : pm_M} {st : List pm_V} {x : Nat} : pm_Rc X 143 (629, [some (pm_r x), o1, o2, o3], st, M) = pm_Rc X 143 (630, [some (pm_r x), o1, o2, o3], pm_r x :: st, M) := pm_R_go rfl
set_option maxRecDepth 100000 in
theorem rx_143_630 {X : pm_X} {o0 o1 o2 : Option pm_V} {M : pm_M} {st : List pm_V} {x : Int32} : pm_Rc X 143 (630, [o0, o1, o2, some (pm_i x)], st, M) = pm_Rc X 143 (631, [o0, o1, o2, some (pm_i x)], pm_i x :: st, M) := pm_R_go rfl
set_option maxRecDepth 100000 in
theorem rx_143_631 {X : pm_X} {o0 o1 o2 o3 : Option pm_V} {M : pm_M} {st : List pm_V} : pm_Rc X 143 (631, [o0, o1, o2, o3], st, M) = pm_Rc X 143 (632, [o0, o1, o2, o3], pm_i (nI 2) :: st, M) := pm_R_go rfl
set_option maxRecDepth 100000 in
theorem rx_143_632 {X : pm_X} {o0 o1 o2 o3 : Option pm_V} {M : pm_M} {st : List pm_V} {a b : Int32} : pm_Rc X 143 (632, [o0, o1, o2, o3], pm_i b :: pm_i a :: st, M) = pm_Rc X 143 (633, [o0, o1, o2, o3], pm_i (a + b) :: st, M) := pm_R_go rfl
set_option maxRecDepth 100000 in
theorem rx_143_633 {X : pm_X} {o0 o1 o2 o3 : Option pm_V} {M : pm_M} {st : List pm_V} {x : Int32} {z : Nat} : pm_Rc X 143 (633, [o0, o1, o2, o3], pm_i x :: pm_r z :: st, M) = (pm_ald X z x M).bind (fun v => pm_Rc X 143 (634, [o0, o1, o2, o3], pm_i v :: st, M)) := pm_R_ald rfl
set_option maxRecDepth 100000 in
theorem rx_143_634 {X : pm_X} {o1 o2 o3 : Option pm_V} {M : pm_M} {st : List pm_V} {x : Nat} : pm_Rc X 143 (634, [some (pm_r x), o1, o2, o3], st, M) = pm_Rc X 143 (635, [some (pm_r x), o1, o2, o3], pm_r x :: st, M) := pm_R_go rfl
set_option maxRecDepth 100000 in
theorem rx_143_635 {X : pm_X} {o0 o1 o2 : Option pm_V} {M : pm_M} {st : List pm_V} {x : Int32} : pm_Rc X 143 (635, [o0, o1, o2, some (pm_i x)], st, M) = pm_Rc X 143 (636, [o0, o1, o2, some (pm_i x)], pm_i x :: st, M) := pm_R_go rfl
set_option maxRecDepth 100000 in
theorem rx_143_636 {X : pm_X} {o0 o1 o2 o3 : Option pm_V} {M : pm_M} {st : List pm_V} : pm_Rc X 143 (636, [o0, o1, o2, o3], st, M) = pm_Rc X 143 (637, [o0, o1, o2, o3], pm_i (nI 3) :: st, M) := pm_R_go rfl
set_option maxRecDepth 100000 in
theorem rx_143_637 {X : pm_X} {o0 o1 o2 o3 : Option pm_V} {M : pm_M} {st : List pm_V} {a b : Int32} : pm_Rc X 143 (637, [o0, o1, o2, o3], pm_i b :: pm_i a :: st, M) = pm_Rc X 143 (638, [o0, o1, o2, o3], pm_i (a + b) :: st, M) := pm_R_go rfl
set_option maxRecDepth 100000 in
theorem rx_143_638 {X : pm_X} {o0 o1 o2 o3 : Option pm_V} {M : pm_M} {st : List pm_V} {x : Int32} {z : Nat} : pm_Rc X 143 (638, [o0, o1, o2, o3], pm_i x :: pm_r z :: st, M) = (pm_ald X z x M).bind (fun v => pm_Rc X 143 (639, [o0, o1, o2, o3], pm_i v :: st, M)) := pm_R_ald rfl
set_option maxRecDepth 100000 in
theorem rx_143_639 {X : pm_X} {o0 o1 o2 o3 : Option pm_V} {M : pm_M} {a0 : Int32} {a1 : Int32} {a2 : Int32} {w0 : pm_V} : pm_Rc X 143 (639, [o0, o1, o2, o3], [pm_i a2, pm_i a1, pm_i a0, pm_r 23, w0], M) = (pm_Rc pm_X0 119 (0, [some (pm_r 23), some (pm_i a0), some (pm_i a1), some (pm_i a2)], [], M)).bind (fun r => pm_Rc X 143 (642, [o0, o1, o2, o3], pm_psh r.1 [w0], r.2)) := pm_R_call rfl (Nat.le_of_ble_eq_true rfl) rfl
set_option maxRecDepth 100000 in
theorem rx_143_642 {X : pm_X} {o0 o1 o2 o3 : Option pm_V} {M : pm_M} {st : List pm_V} {a b : Int32} : pm_Rc X 143 (642, [o0, o1, o2, o3], pm_i b :: pm_i a :: st, M) = if a = b then pm_Rc X 143 (1117, [o0, o1, o2, o3], st, M) else pm_Rc X 143 (645, [o0, o1, o2, o3], st, M) := pm_R_iceq rfl
set_option maxRecDepth 100000 in
theorem rx_143_645 {X : pm_X} {o0 o1 o2 o3 : Option pm_V} {M : pm_M} {st : List pm_V} : pm_Rc X 143 (645, [o0, o1, o2, o3], st, M) = pm_Rc X 143 (646, [o0, o1, o2, o3], pm_i (nI 0) :: st, M) := pm_R_go rfl
set_option maxRecDepth 100000 in
theorem rx_143_646_0 {X : pm_X} {o0 o1 o2 o3 : Option pm_V} {M : pm_M} : pm_Rc X 143 (646, [o0, o1, o2, o3], [pm_i (nI 0)], M) = some (some (pm_i (nI 0)), M) := pm_R_ret rfl
set_option maxRecDepth 100000 in
theorem rx_143_646_1 {X : pm_X} {o0 o1 o2 o3 : Option pm_V} {M : pm_M} : pm_Rc X 143 (646, [o0, o1, o2, o3], [pm_i (nI 1)], M) = some (some (pm_i (nI 1)), M) := pm_R_ret rfl
set_option maxRecDepth 100000 in
theorem rx_143_647 {X : pm_X} {o0 o2 o3 : Option pm_V} {M : pm_M} {st : List pm_V} {x : Nat} : pm_Rc X 143 (647, [o0, some (pm_r x), o2, o3], st, M) = pm_Rc X 143 (648, [o0, some (pm_r x), o2, o3], pm_r x :: st, M) := pm_R_go rfl
set_option maxRecDepth 100000 in
theorem rx_143_648 {X : pm_X} {o1 o2 o3 : Option pm_V} {M : pm_M} {st : List pm_V} {x : Nat} : pm_Rc X 143 (648, [some (pm_r x), o1, o2, o3], st, M) = pm_Rc X 143 (649, [some (pm_r x), o1, o2, o3], pm_r x :: st, M) := pm_R_go rfl
set_option maxRecDepth 100000 in
theorem rx_143_649 {X : pm_X} {o0 o1 o2 : Option pm_V} {M : pm_M} {st : List pm_V} {x : Int32} : pm_Rc X 143 (649, [o0, o1, o2, some (pm_i x)], st, M) = pm_Rc X 143 (650, [o0, o1, o2, some (pm_i x)], pm_i x :: st, M) := pm_R_go rfl
set_option maxRecDepth 100000 in
theorem rx_143_650 {X : pm_X} {o0 o1 o2 o3 : Option pm_V} {M : pm_M} {st : List pm_V} : pm_Rc X 143 (650, [o0, o1, o2, o3], st, M) = pm_Rc X 143 (651, [o0, o1, o2, o3], pm_i (nI 1) :: st, M) := pm_R_go rfl
set_option maxRecDepth 100000 in
theorem rx_143_651 {X : pm_X} {o0 o1 o2 o3 : Option pm_V} {M : pm_M} {st : List pm_V} {a b : Int32} : pm_Rc X 143 (651, [o0, o1, o2, o3], pm_i b :: pm_i a :: st, M) = pm_Rc X 143 (652, [o0, o1, o2, o3], pm_i (a + b) :: st, M) := pm_R_go rfl
set_option maxRecDepth 100000 in
theorem rx_143_652 {X : pm_X} {o0 o1 o2 o3 : Option pm_V} {M : pm_M} {st : List pm_V} {x : Int32} {z : Nat} : pm_Rc X 143 (652, [o0, o1, o2, o3], pm_i x :: pm_r z :: st, M) = (pm_ald X z x M).bind (fun v => pm_Rc X 143 (653, [o0, o1, o2, o3], pm_i v :: st, M)) := pm_R_ald rfl
set_option maxRecDepth 100000 in
theorem rx_143_653 {X : pm_X} {o0 o1 o2 o3 : Option pm_V} {M : pm_M} {a0 : Int32} : pm_Rc X 143 (653, [o0, o1, o2, o3], [pm_i a0, pm_r 0], M) = (pm_Rc pm_X0 56 (0, [some (pm_r 0), some (pm_i a0)], [], M)).bind (fun r => pm_Rc X 143 (656, [o0, o1, o2, o3], pm_psh r.1 [], r.2)) := pm_R_call rfl (Nat.le_of_ble_eq_true rfl) rfl
set_option maxRecDepth 100000 in
theorem rx_143_656 {X : pm_X} {o0 o1 o3 : Option pm_V} {M : pm_M} {st : List pm_V} {x : Nat} : pm_Rc X 143 (656, [o0, o1, some (pm_r x), o3], st, M) = pm_Rc X 143 (657, [o0, o1, some (pm_r x), o3], pm_r x :: st, M) := pm_R_go rfl
set_option maxRecDepth 100000 in
theorem rx_143_657 {X : pm_X} {o1 o2 o3 : Option pm_V} {M : pm_M} {st : List pm_V} {x : Nat} : pm_Rc X 143 (657, [some (pm_r x), o1, o2, o3], st, M) = pm_Rc X 143 (658, [some (pm_r x), o1, o2, o3], pm_r x :: st, M) := pm_R_go rfl
set_option maxRecDepth 100000 in
theorem rx_143_658 {X : pm_X} {o0 o1 o2 : Option pm_V} {M : pm_M} {st : List pm_V} {x : Int32} : pm_Rc X 143 (658, [o0, o1, o2, some (pm_i x)], st, M) = pm_Rc X 143 (659, [o0, o1, o2, some (pm_i x)], pm_i x :: st, M) := pm_R_go rfl
set_option maxRecDepth 100000 in
theorem rx_143_659 {X : pm_X} {o0 o1 o2 o3 : Option pm_V} {M : pm_M} {st : List pm_V} : pm_Rc X 143 (659, [o0, o1, o2, o3], st, M) = pm_Rc X 143 (660, [o0, o1, o2, o3], pm_i (nI 1) :: st, M) := pm_R_go rfl
set_option maxRecDepth 100000 in
theorem rx_143_660 {X : pm_X} {o0 o1 o2 o3 : Option pm_V} {M : pm_M} {st : List pm_V} {a b : Int32} : pm_Rc X 143 (660, [o0, o1, o2, o3], pm_i b :: pm_i a :: st, M) = pm_Rc X 143 (661, [o0, o1, o2, o3], pm_i (a + b) :: st, M) := pm_R_go rfl
set_option maxRecDepth 100000 in
theorem rx_143_661 {X : pm_X} {o0 o1 o2 o3 : Option pm_V} {M : pm_M} {st : List pm_V} {x : Int32} {z : Nat} : pm_Rc X 143 (661, [o0, o1, o2, o3], pm_i x :: pm_r z :: st, M) = (pm_ald X z x M).bind (fun v => pm_Rc X 143 (662, [o0, o1, o2, o3], pm_i v :: st, M)) := pm_R_ald rfl
set_option maxRecDepth 100000 in
theorem rx_143_662 {X : pm_X} {o0 o1 o2 o3 : Option pm_V} {M : pm_M} {a0 : Int32} {w0 : pm_V} : pm_Rc X 143 (662, [o0, o1, o2, o3], [pm_i a0, pm_r 23, w0], M) = (pm_Rc pm_X0 120 (0, [some (pm_r 23), some (pm_i a0)], [], M)).bind (fun r => pm_Rc X 143 (665, [o0, o1, o2, o3], pm_psh r.1 [w0], r.2)) := pm_R_call rfl (Nat.le_of_ble_eq_true rfl) rfl
set_option maxRecDepth 100000 in
theorem rx_143_665 {X : pm_X} {o0 o1 o2 o3 : Option pm_V} {M : pm_M} {st : List pm_V} {a b : Int32} : pm_Rc X 143 (665, [o0, o1, o2, o3], pm_i b :: pm_i a :: st, M) = if a = b then pm_Rc X 143 (1117, [o0, o1, o2, o3], st, M) else pm_Rc X 143 (668, [o0, o1, o2, o3], st, M) := pm_R_iceq rfl
set_option maxRecDepth 100000 in
theorem rx_143_668 {X : pm_X} {o0 o1 o2 o3 : Option pm_V} {M : pm_M} {st : List pm_V} : pm_Rc X 143 (668, [o0, o1, o2, o3], st, M) = pm_Rc X 143 (669, [o0, o1, o2, o3], pm_i (nI 0) :: st, M) := pm_R_go rfl
set_option maxRecDepth 100000 in
theorem rx_143_669_0 {X : pm_X} {o0 o1 o2 o3 : Option pm_V} {M : pm_M} : pm_Rc X 143 (669, [o0, o1, o2, o3], [pm_i (nI 0)], M) = some (some (pm_i (nI 0)), M) := pm_R_ret rfl
set_option maxRecDepth 100000 in
theorem rx_143_669_1 {X : pm_X} {o0 o1 o2 o3 : Option pm_V} {M : pm_M} : pm_Rc X 143 (669, [o0, o1, o2, o3], [pm_i (nI 1)], M) = some (some (pm_i (nI 1)), M) := pm_R_ret rfl
set_option maxRecDepth 100000 in
theorem rx_143_670 {X : pm_X} {o0 o2 o3 : Option pm_V} {M : pm_M} {st : List pm_V} {x : Nat} : pm_Rc X 143 (670, [o0, some (pm_r x), o2, o3], st, M) = pm_Rc X 143 (671, [o0, some (pm_r x), o2, o3], pm_r x :: st, M) := pm_R_go rfl
set_option maxRecDepth 100000 in
theorem rx_143_671 {X : pm_X} {o1 o2 o3 : Option pm_V} {M : pm_M} {st : List pm_V} {x : Nat} : pm_Rc X 143 (671, [some (pm_r x), o1, o2, o3], st, M) = pm_Rc X 143 (672, [some (pm_r x), o1, o2, o3], pm_r x :: st, M) := pm_R_go rfl
set_option maxRecDepth 100000 in
theorem rx_143_672 {X : pm_X} {o0 o1 o2 : Option pm_V} {M : pm_M} {st : List pm_V} {x : Int32} : pm_Rc X 143 (672, [o0, o1, o2, some (pm_i x)], st, M) = pm_Rc X 143 (673, [o0, o1, o2, some (pm_i x)], pm_i x :: st, M) := pm_R_go rfl
set_option maxRecDepth 100000 in
theorem rx_143_673 {X : pm_X} {o0 o1 o2 o3 : Option pm_V} {M : pm_M} {st : List pm_V} : pm_Rc X 143 (673, [o0, o1, o2, o3], st, M) = pm_Rc X 143 (674, [o0, o1, o2, o3], pm_i (nI 1) :: st, M) := pm_R_go rfl
set_option maxRecDepth 100000 in
theorem rx_143_674 {X : pm_X} {o0 o1 o2 o3 : Option pm_V} {M : pm_M} {st : List pm_V} {a b : Int32} : pm_Rc X 143 (674, [o0, o1, o2, o3], pm_i b :: pm_i a :: st, M) = pm_Rc X 143 (675, [o0, o1, o2, o3], pm_i (a + b) :: st, M) := pm_R_go rfl
set_option maxRecDepth 100000 in
theorem rx_143_675 {X : pm_X} {o0 o1 o2 o3 : Option pm_V} {M : pm_M} {st : List pm_V} {x : Int32} {z : Nat} : pm_Rc X 143 (675, [o0, o1, o2, o3], pm_i x :: pm_r z :: st, M) = (pm_ald X z x M).bind (fun v => pm_Rc X 143 (676, [o0, o1, o2, o3], pm_i v :: st, M)) := pm_R_ald rfl
set_option maxRecDepth 100000 in
theorem rx_143_676 {X : pm_X} {o0 o1 o2 o3 : Option pm_V} {M : pm_M} {a0 : Int32} : pm_Rc X 143 (676, [o0, o1, o2, o3], [pm_i a0, pm_r 0], M) = (pm_Rc pm_X0 57 (0, [some (pm_r 0), some (pm_i a0)], [], M)).bind (fun r => pm_Rc X 143 (679, [o0, o1, o2, o3], pm_psh r.1 [], r.2)) := pm_R_call rfl (Nat.le_of_ble_eq_true rfl) rfl
set_option maxRecDepth 100000 in
theorem rx_143_679 {X : pm_X} {o0 o1 o3 : Option pm_V} {M : pm_M} {st : List pm_V} {x : Nat} : pm_Rc X 143 (679, [o0, o1, some (pm_r x), o3], st, M) = pm_Rc X 143 (680, [o0, o1, some (pm_r x), o3], pm_r x :: st, M) := pm_R_go rfl
set_option maxRecDepth 100000 in
theorem rx_143_680 {X : pm_X} {o1 o2 o3 : Option pm_V} {M : pm_M} {st : List pm_V} {x : Nat} : pm_Rc X 143 (680, [some (pm_r x), o1, o2, o3], st, M) = pm_Rc X 143 (681, [some (pm_r x), o1, o2, o3], pm_r x :: st, M) := pm_R_go rfl
set_option maxRecDepth 100000 in
theorem rx_143_681 {X : pm_X} {o0 o1 o2 : Option pm_V} {M : pm_M} {st : List pm_V} {x : Int32} : pm_Rc X 143 (681, [o0, o1, o2, some (pm_i x)], st, M) = pm_Rc X 143 (682, [o0, o1, o2, some (pm_i x)], pm_i x :: st, M) := pm_R_go rfl
set_option maxRecDepth 100000 in
theorem rx_143_682 {X : pm_X} {o0 o1 o2 o3 : Option pm_V} {M : pm_M} {st : List pm_V} : pm_Rc X 143 (682, [o0, o1, o2, o3], st, M) = pm_Rc X 143 (683, [o0, o1, o2, o3], pm_i (nI 1) :: st, M) := pm_R_go rfl
set_option maxRecDepth 100000 in
theorem rx_143_683 {X : pm_X} {o0 o1 o2 o3 : Option pm_V} {M : pm_M} {st : List pm_V} {a b : Int32} : pm_Rc X 143 (683, [o0, o1, o2, o3], pm_i b :: pm_i a :: st, M) = pm_Rc X 143 (684, [o0, o1, o2, o3], pm_i (a + b) :: st, M) := pm_R_go rfl
set_option maxRecDepth 100000 in
theorem rx_143_684 {X : pm_X} {o0 o1 o2 o3 : Option pm_V} {M : pm_M} {st : List pm_V} {x : Int32} {z : Nat} : pm_Rc X 143 (684, [o0, o1, o2, o3], pm_i x :: pm_r z :: st, M) = (pm_ald X z x M).bind (fun v => pm_Rc X 143 (685, [o0, o1, o2, o3], pm_i v :: st, M)) := pm_R_ald rfl
set_option maxRecDepth 100000 in
theorem rx_143_685 {X : pm_X} {o0 o1 o2 o3 : Option pm_V} {M : pm_M} {a0 : Int32} {w0 : pm_V} : pm_Rc X 143 (685, [o0, o1, o2, o3], [pm_i a0, pm_r 23, w0], M) = (pm_Rc pm_X0 121 (0, [some (pm_r 23), some (pm_i a0), none, none, none], [], M)).bind (fun r => pm_Rc X 143 (688, [o0, o1, o2, o3], pm_psh r.1 [w0], r.2)) := pm_R_call rfl (Nat.le_of_ble_eq_true rfl) rfl
set_option maxRecDepth 100000 in
theorem rx_143_688 {X : pm_X} {o0 o1 o2 o3 : Option pm_V} {M : pm_M} {st : List pm_V} {a b : Int32} : pm_Rc X 143 (688, [o0, o1, o2, o3], pm_i b :: pm_i a :: st, M) = if a = b then pm_Rc X 143 (1117, [o0, o1, o2, o3], st, M) else pm_Rc X 143 (691, [o0, o1, o2, o3], st, M) := pm_R_iceq rfl
set_option maxRecDepth 100000 in
theorem rx_143_691 {X : pm_X} {o0 o1 o2 o3 : Option pm_V} {M : pm_M} {st : List pm_V} : pm_Rc X 143 (691, [o0, o1, o2, o3], st, M) = pm_Rc X 143 (692, [o0, o1, o2, o3], pm_i (nI 0) :: st, M) := pm_R_go rfl
set_option maxRecDepth 100000 in
theorem rx_143_692_0 {X : pm_X} {o0 o1 o2 o3 : Option pm_V} {M : pm_M} : pm_Rc X 143 (692, [o0, o1, o2, o3], [pm_i (nI 0)], M) = some (some (pm_i (nI 0)), M) := pm_R_ret rfl
set_option maxRecDepth 100000 in
theorem rx_143_692_1 {X : pm_X} {o0 o1 o2 o3 : Option pm_V} {M : pm_M} : pm_Rc X 143 (692, [o0, o1, o2, o3], [pm_i (nI 1)], M) = some (some (pm_i (nI 1)), M) := pm_R_ret rfl
set_option maxRecDepth 100000 in
theorem rx_143_693 {X : pm_X} {o0 o2 o3 : Option pm_V} {M : pm_M} {st : List pm_V} {x : Nat} : pm_Rc X 143 (693, [o0, some (pm_r x), o2, o3], st, M) = pm_Rc X 143 (694, [o0, some (pm_r x), o2, o3], pm_r x :: st, M) := pm_R_go rfl
set_option maxRecDepth 100000 in
theorem rx_143_694 {X : pm_X} {o1 o2 o3 : Option pm_V} {M : pm_M} {st : List pm_V} {x : Nat} : pm_Rc X 143 (694, [some (pm_r x), o1, o2, o3], st, M) = pm_Rc X 143 (695, [some (pm_r x), o1, o2, o3], pm_r x :: st, M) := pm_R_go rfl
set_option maxRecDepth 100000 in
theorem rx_143_695 {X : pm_X} {o0 o1 o2 : Option pm_V} {M : pm_M} {st : List pm_V} {x : Int32} : pm_Rc X 143 (695, [o0, o1, o2, some (pm_i x)], st, M) = pm_Rc X 143 (696, [o0, o1, o2, some (pm_i x)], pm_i x :: st, M) := pm_R_go rfl
set_option maxRecDepth 100000 in
theorem rx_143_696 {X : pm_X} {o0 o1 o2 o3 : Option pm_V} {M : pm_M} {st : List pm_V} : pm_Rc X 143 (696, [o0, o1, o2, o3], st, M) = pm_Rc X 143 (697, [o0, o1, o2, o3], pm_i (nI 1) :: st, M) := pm_R_go rfl
set_option maxRecDepth 100000 in
theorem rx_143_697 {X : pm_X} {o0 o1 o2 o3 : Option pm_V} {M : pm_M} {st : List pm_V} {a b : Int32} : pm_Rc X 143 (697, [o0, o1, o2, o3], pm_i b :: pm_i a :: st, M) = pm_Rc X 143 (698, [o0, o1, o2, o3], pm_i (a + b) :: st, M) := pm_R_go rfl
set_option maxRecDepth 100000 in
theorem rx_143_698 {X : pm_X} {o0 o1 o2 o3 : Option pm_V} {M : pm_M} {st : List pm_V} {x : Int32} {z : Nat} : pm_Rc X 143 (698, [o0, o1, o2, o3], pm_i x :: pm_r z :: st, M) = (pm_ald X z x M).bind (fun v => pm_Rc X 143 (699, [o0, o1, o2, o3], pm_i v :: st, M)) := pm_R_ald rfl
set_option maxRecDepth 100000 in
theorem rx_143_699 {X : pm_X} {o0 o1 o2 o3 : Option pm_V} {M : pm_M} {a0 : Int32} : pm_Rc X 143 (699, [o0, o1, o2, o3], [pm_i a0, pm_r 0], M) = (pm_Rc pm_X0 60 (0, [some (pm_r 0), some (pm_i a0)], [], M)).bind (fun r => pm_Rc X 143 (702, [o0, o1, o2, o3], pm_psh r.1 [], r.2)) := pm_R_call rfl (Nat.le_of_ble_eq_true rfl) rfl
set_option maxRecDepth 100000 in
theorem rx_143_702 {X : pm_X} {o0 o1 o3 : Option pm_V} {M : pm_M} {st : List pm_V} {x : Nat} : pm_Rc X 143 (702, [o0, o1, some (pm_r x), o3], st, M) = pm_Rc X 143 (703, [o0, o1, some (pm_r x), o3], pm_r x :: st, M) := pm_R_go rfl
set_option maxRecDepth 100000 in
theorem rx_143_703 {X : pm_X} {o1 o2 o3 : Option pm_V} {M : pm_M} {st : List pm_V} {x : Nat} : pm_Rc X 143 (703, [some (pm_r x), o1, o2, o3], st, M) = pm_Rc X 143 (704, [some (pm_r x), o1, o2, o3], pm_r x :: st, M) := pm_R_go rfl
set_option maxRecDepth 100000 in
theorem rx_143_704 {X : pm_X} {o0 o1 o2 : Option pm_V} {M : pm_M} {st : List pm_V} {x : Int32} : pm_Rc X 143 (704, [o0, o1, o2, some (pm_i x)], st, M) = pm_Rc X 143 (705, [o0, o1, o2, some (pm_i x)], pm_i x :: st, M) := pm_R_go rfl
set_option maxRecDepth 100000 in
theorem rx_143_705 {X : pm_X} {o0 o1 o2 o3 : Option pm_V} {M : pm_M} {st : List pm_V} : pm_Rc X 143 (705, [o0, o1, o2, o3], st, M) = pm_Rc X 143 (706, [o0, o1, o2, o3], pm_i (nI 1) :: st, M) := pm_R_go rfl
set_option maxRecDepth 100000 in
theorem rx_143_706 {X : pm_X} {o0 o1 o2 o3 : Option pm_V} {M : pm_M} {st : List pm_V} {a b : Int32} : pm_Rc X 143 (706, [o0, o1, o2, o3], pm_i b :: pm_i a :: st, M) = pm_Rc X 143 (707, [o0, o1, o2, o3], pm_i (a + b) :: st, M) := pm_R_go rfl
set_option maxRecDepth 100000 in
theorem rx_143_707 {X : pm_X} {o0 o1 o2 o3 : Option pm_V} {M : pm_M} {st : List pm_V} {x : Int32} {z : Nat} : pm_Rc X 143 (707, [o0, o1, o2, o3], pm_i x :: pm_r z :: st, M) = (pm_ald X z x M).bind (fun v => pm_Rc X 143 (708, [o0, o1, o2, o3], pm_i v :: st, M)) := pm_R_ald rfl
set_option maxRecDepth 100000 in
theorem rx_143_708 {X : pm_X} {o0 o1 o2 o3 : Option pm_V} {M : pm_M} {a0 : Int32} {w0 : pm_V} : pm_Rc X 143 (708, [o0, o1, o2, o3], [pm_i a0, pm_r 23, w0], M) = (pm_Rc pm_X0 124 (0, [some (pm_r 23), some (pm_i a0), none, none, none], [], M)).bind (fun r => pm_Rc X 143 (711, [o0, o1, o2, o3], pm_psh r.1 [w0], r.2)) := pm_R_call rfl (Nat.le_of_ble_eq_true rfl) rfl
set_option maxRecDepth 100000 in
theorem rx_143_711 {X : pm_X} {o0 o1 o2 o3 : Option pm_V} {M : pm_M} {st : List pm_V} {a b : Int32} : pm_Rc X 143 (711, [o0, o1, o2, o3], pm_i b :: pm_i a :: st, M) = if a = b then pm_Rc X 143 (1117, [o0, o1, o2, o3], st, M) else pm_Rc X 143 (714, [o0, o1, o2, o3], st, M) := pm_R_iceq rfl
set_option maxRecDepth 100000 in
theorem rx_143_714 {X : pm_X} {o0 o1 o2 o3 : Option pm_V} {M : pm_M} {st : List pm_V} : pm_Rc X 143 (714, [o0, o1, o2, o3], st, M) = pm_Rc X 143 (715, [o0, o1, o2, o3], pm_i (nI 0) :: st, M) := pm_R_go rfl
set_option maxRecDepth 100000 in
theorem rx_143_715_0 {X : pm_X} {o0 o1 o2 o3 : Option pm_V} {M : pm_M} : pm_Rc X 143 (715, [o0, o1, o2, o3], [pm_i (nI 0)], M) = some (some (pm_i (nI 0)), M) := pm_R_ret rfl
set_option maxRecDepth 100000 in
theorem rx_143_715_1 {X : pm_X} {o0 o1 o2 o3 : Option pm_V} {M : pm_M} : pm_Rc X 143 (715, [o0, o1, o2, o3], [pm_i (nI 1)], M) = some (some (pm_i (nI 1)), M) := pm_R_ret rfl
set_option maxRecDepth 100000 in
theorem rx_143_716 {X : pm_X} {o0 o2 o3 : Option pm_V} {M : pm_M} {st : List pm_V} {x : Nat} : pm_Rc X 143 (716, [o0, some (pm_r x), o2, o3], st, M) = pm_Rc X 143 (717, [o0, some (pm_r x), o2, o3], pm_r x :: st, M) := pm_R_go rfl
set_option maxRecDepth 100000 in
theorem rx_143_717 {X : pm_X} {o1 o2 o3 : Option pm_V} {M : pm_M} {st : List pm_V} {x : Nat} : pm_Rc X 143 (717, [some (pm_r x), o1, o2, o3], st, M) = pm_Rc X 143 (718, [some (pm_r x), o1, o2, o3], pm_r x :: st, M) := pm_R_go rfl
set_option maxRecDepth 100000 in
theorem rx_143_718 {X : pm_X} {o0 o1 o2 : Option pm_V} {M : pm_M} {st : List pm_V} {x : Int32} : pm_Rc X 143 (718, [o0, o1, o2, some (pm_i x)], st, M) = pm_Rc X 143 (719, [o0, o1, o2, some (pm_i x)], pm_i x :: st, M) := pm_R_go rfl
set_option maxRecDepth 100000 in
theorem rx_143_719 {X : pm_X} {o0 o1 o2 o3 : Option pm_V} {M : pm_M} {st : List pm_V} : pm_Rc X 143 (719, [o0, o1, o2, o3], st, M) = pm_Rc X 143 (720, [o0, o1, o2, o3], pm_i (nI 1) :: st, M) := pm_R_go rfl
set_option maxRecDepth 100000 in
theorem rx_143_720 {X : pm_X} {o0 o1 o2 o3 : Option pm_V} {M : pm_M} {st : List pm_V} {a b : Int32} : pm_Rc X 143 (720, [o0, o1, o2, o3], pm_i b :: pm_i a :: st, M) = pm_Rc X 143 (721, [o0, o1, o2, o3], pm_i (a + b) :: st, M) := pm_R_go rfl
set_option maxRecDepth 100000 in
theorem rx_143_721 {X : pm_X} {o0 o1 o2 o3 : Option pm_V} {M : pm_M} {st : List pm_V} {x : Int32} {z : Nat} : pm_Rc X 143 (721, [o0, o1, o2, o3], pm_i x :: pm_r z :: st, M) = (pm_ald X z x M).bind (fun v => pm_Rc X 143 (722, [o0, o1, o2, o3], pm_i v :: st, M)) := pm_R_ald rfl
set_option maxRecDepth 100000 in
theorem rx_143_722 {X : pm_X} {o0 o1 o2 o3 : Option pm_V} {M : pm_M} {a0 : Int32} : pm_Rc X 143 (722, [o0, o1, o2, o3], [pm_i a0, pm_r 0], M) = (pm_Rc pm_X0 61 (0, [some (pm_r 0), some (pm_i a0)], [], M)).bind (fun r => pm_Rc X 143 (725, [o0, o1, o2, o3], pm_psh r.1 [], r.2)) := pm_R_call rfl (Nat.le_of_ble_eq_true rfl) rfl
set_option maxRecDepth 100000 in
theorem rx_143_725 {X : pm_X} {o0 o1 o3 : Option pm_V} {M : pm_M} {st : List pm_V} {x : Nat} : pm_Rc X 143 (725, [o0, o1, some (pm_r x), o3], st, M) = pm_Rc X 143 (726, [o0, o1, some (pm_r x), o3], pm_r x :: st, M) := pm_R_go rfl
set_option maxRecDepth 100000 in
theorem rx_143_726 {X : pm_X} {o1 o2 o3 : Option pm_V} {M : pm_M} {st : List pm_V} {x : Nat} : pm_Rc X 143 (726, [some (pm_r x), o1, o2, o3], st, M) = pm_Rc X 143 (727, [some (pm_r x), o1, o2, o3], pm_r x :: st, M) := pm_R_go rfl
set_option maxRecDepth 100000 in
theorem rx_143_727 {X : pm_X} {o0 o1 o2 : Option pm_V} {M : pm_M} {st : List pm_V} {x : Int32} : pm_Rc X 143 (727, [o0, o1, o2, some (pm_i x)], st, M) = pm_Rc X 143 (728, [o0, o1, o2, some (pm_i x)], pm_i x :: st, M) := pm_R_go rfl
set_option maxRecDepth 100000 in
theorem rx_143_728 {X : pm_X} {o0 o1 o2 o3 : Option pm_V} {M : pm_M} {st : List pm_V} : pm_Rc X 143 (728, [o0, o1, o2, o3], st, M) = pm_Rc X 143 (729, [o0, o1, o2, o3], pm_i (nI 1) :: st, M) := pm_R_go rfl
set_option maxRecDepth 100000 in
theorem rx_143_729 {X : pm_X} {o0 o1 o2 o3 : Option pm_V} {M : pm_M} {st : List pm_V} {a b : Int32} : pm_Rc X 143 (729, [o0, o1, o2, o3], pm_i b :: pm_i a :: st, M) = pm_Rc X 143 (730, [o0, o1, o2, o3], pm_i (a + b) :: st, M) := pm_R_go rfl
set_option maxRecDepth 100000 in
theorem rx_143_730 {X : pm_X} {o0 o1 o2 o3 : Option pm_V} {M : pm_M} {st : List pm_V} {x : Int32} {z : Nat} : pm_Rc X 143 (730, [o0, o1, o2, o3], pm_i x :: pm_r z :: st, M) = (pm_ald X z x M).bind (fun v => pm_Rc X 143 (731, [o0, o1, o2, o3], pm_i v :: st, M)) := pm_R_ald rfl
set_option maxRecDepth 100000 in
theorem rx_143_731 {X : pm_X} {o0 o1 o2 o3 : Option pm_V} {M : pm_M} {a0 : Int32} {w0 : pm_V} : pm_Rc X 143 (731, [o0, o1, o2, o3], [pm_i a0, pm_r 23, w0], M) = (pm_Rc pm_X0 125 (0, [some (pm_r 23), some (pm_i a0), none, none, none], [], M)).bind (fun r => pm_Rc X 143 (734, [o0, o1, o2, o3], pm_psh r.1 [w0], r.2)) := pm_R_call rfl (Nat.le_of_ble_eq_true rfl) rfl
set_option maxRecDepth 100000 in
theorem rx_143_734 {X : pm_X} {o0 o1 o2 o3 : Option pm_V} {M : pm_M} {st : List pm_V} {a b : Int32} : pm_Rc X 143 (734, [o0, o1, o2, o3], pm_i b :: pm_i a :: st, M) = if a = b then pm_Rc X 143 (1117, [o0, o1, o2, o3], st, M) else pm_Rc X 143 (737, [o0, o1, o2, o3], st, M) := pm_R_iceq rfl
set_option maxRecDepth 100000 in
theorem rx_143_737 {X : pm_X} {o0 o1 o2 o3 : Option pm_V} {M : pm_M} {st : List pm_V} : pm_Rc X 143 (737, [o0, o1, o2, o3], st, M) = pm_Rc X 143 (738, [o0, o1, o2, o3], pm_i (nI 0) :: st, M) := pm_R_go rfl
set_option maxRecDepth 100000 in
theorem rx_143_738_0 {X : pm_X} {o0 o1 o2 o3 : Option pm_V} {M : pm_M} : pm_Rc X 143 (738, [o0, o1, o2, o3], [pm_i (nI 0)], M) = some (some (pm_i (nI 0)), M) := pm_R_ret rfl
set_option maxRecDepth 100000 in
theorem rx_143_738_1 {X : pm_X} {o0 o1 o2 o3 : Option pm_V} {M : pm_M} : pm_Rc X 143 (738, [o0, o1, o2, o3], [pm_i (nI 1)], M) = some (some (pm_i (nI 1)), M) := pm_R_ret rfl
set_option maxRecDepth 100000 in
theorem rx_143_739 {X : pm_X} {o0 o2 o3 : Option pm_V} {M : pm_M} {st : List pm_V} {x : Nat} : pm_Rc X 143 (739, [o0, some (pm_r x), o2, o3], st, M) = pm_Rc X 143 (740, [o0, some (pm_r x), o2, o3], pm_r x :: st, M) := pm_R_go rfl
set_option maxRecDepth 100000 in
theorem rx_143_740 {X : pm_X} {o1 o2 o3 : Option pm_V} {M : pm_M} {st : List pm_V} {x : Nat} : pm_Rc X 143 (740, [some (pm_r x), o1, o2, o3], st, M) = pm_Rc X 143 (741, [some (pm_r x), o1, o2, o3], pm_r x :: st, M) := pm_R_go rfl
set_option maxRecDepth 100000 in
theorem rx_143_741 {X : pm_X} {o0 o1 o2 : Option pm_V} {M : pm_M} {st : List pm_V} {x : Int32} : pm_Rc X 143 (741, [o0, o1, o2, some (pm_i x)], st, M) = pm_Rc X 143 (742, [o0, o1, o2, some (pm_i x)], pm_i x :: st, M) := pm_R_go rfl
set_option maxRecDepth 100000 in
theorem rx_143_742 {X : pm_X} {o0 o1 o2 o3 : Option pm_V} {M : pm_M} {st : List pm_V} : pm_Rc X 143 (742, [o0, o1, o2, o3], st, M) = pm_Rc X 143 (743, [o0, o1, o2, o3], pm_i (nI 1) :: st, M) := pm_R_go rfl
set_option maxRecDepth 100000 in
theorem rx_143_743 {X : pm_X} {o0 o1 o2 o3 : Option pm_V} {M : pm_M} {st : List pm_V} {a b : Int32} : pm_Rc X 143 (743, [o0, o1, o2, o3], pm_i b :: pm_i a :: st, M) = pm_Rc X 143 (744, [o0, o1, o2, o3], pm_i (a + b) :: st, M) := pm_R_go rfl
set_option maxRecDepth 100000 in
theorem rx_143_744 {X : pm_X} {o0 o1 o2 o3 : Option pm_V} {M : pm_M} {st : List pm_V} {x : Int32} {z : Nat} : pm_Rc X 143 (744, [o0, o1, o2, o3], pm_i x :: pm_r z :: st, M) = (pm_ald X z x M).bind (fun v => pm_Rc X 143 (745, [o0, o1, o2, o3], pm_i v :: st, M)) := pm_R_ald rfl
set_option maxRecDepth 100000 in
theorem rx_143_745 {X : pm_X} {o1 o2 o3 : Option pm_V} {M : pm_M} {st : List pm_V} {x : Nat} : pm_Rc X 143 (745, [some (pm_r x), o1, o2, o3], st, M) = pm_Rc X 143 (746, [some (pm_r x), o1, o2, o3], pm_r x :: st, M) := pm_R_go rfl
set_option maxRecDepth 100000 in
theorem rx_143_746 {X : pm_X} {o0 o1 o2 : Option pm_V} {M : pm_M} {st : List pm_V} {x : Int32} : pm_Rc X 143 (746, [o0, o1, o2, some (pm_i x)], st, M) = pm_Rc X 143 (747, [o0, o1, o2, some (pm_i x)], pm_i x :: st, M) := pm_R_go rfl
set_option maxRecDepth 100000 in
theorem rx_143_747 {X : pm_X} {o0 o1 o2 o3 : Option pm_V} {M : pm_M} {st : List pm_V} : pm_Rc X 143 (747, [o0, o1, o2, o3], st, M) = pm_Rc X 143 (748, [o0, o1, o2, o3], pm_i (nI 2) :: st, M) := pm_R_go rfl
set_option maxRecDepth 100000 in
theorem rx_143_748 {X : pm_X} {o0 o1 o2 o3 : Option pm_V} {M : pm_M} {st : List pm_V} {a b : Int32} : pm_Rc X 143 (748, [o0, o1, o2, o3], pm_i b :: pm_i a :: st, M) = pm_Rc X 143 (749, [o0, o1, o2, o3], pm_i (a + b) :: st, M) := pm_R_go rfl
set_option maxRecDepth 100000 in
theorem rx_143_749 {X : pm_X} {o0 o1 o2 o3 : Option pm_V} {M : pm_M} {st : List pm_V} {x : Int32} {z : Nat} : pm_Rc X 143 (749, [o0, o1, o2, o3], pm_i x :: pm_r z :: st, M) = (pm_ald X z x M).bind (fun v => pm_Rc X 143 (750, [o0, o1, o2, o3], pm_i v :: st, M)) := pm_R_ald rfl
set_option maxRecDepth 100000 in
theorem rx_143_750 {X : pm_X} {o0 o1 o2 o3 : Option pm_V} {M : pm_M} {a0 : Int32} {a1 : Int32} : pm_Rc X 143 (750, [o0, o1, o2, o3], [pm_i a1, pm_i a0, pm_r 0], M) = (pm_Rc pm_X0 62 (0, [some (pm_r 0), some (pm_i a0), some (pm_i a1), none, none, none], [], M)).bind (fun r => pm_Rc X 143 (753, [o0, o1, o2, o3], pm_psh r.1 [], r.2)) := pm_R_call rfl (Nat.le_of_ble_eq_true rfl) rfl
set_option maxRecDepth 100000 in
theorem rx_143_753 {X : pm_X} {o0 o1 o3 : Option pm_V} {M : pm_M} {st : List pm_V} {x : Nat} : pm_Rc X 143 (753, [o0, o1, some (pm_r x), o3], st, M) = pm_Rc X 143 (754, [o0, o1, some (pm_r x), o3], pm_r x :: st, M) := pm_R_go rfl
set_option maxRecDepth 100000 in
theorem rx_143_754 {X : pm_X} {o1 o2 o3 : Option pm_V} {M : pm_M} {st : List pm_V} {x : Nat} : pm_Rc X 143 (754, [some (pm_r x), o1, o2, o3], st, M) = pm_Rc X 143 (755, [some (pm_r x), o1, o2, o3], pm_r x :: st, M) := pm_R_go rfl
set_option maxRecDepth 100000 in
theorem rx_143_755 {X : pm_X} {o0 o1 o2 : Option pm_V} {M : pm_M} {st : List pm_V} {x : Int32} : pm_Rc X 143 (755, [o0, o1, o2, some (pm_i x)], st, M) = pm_Rc X 143 (756, [o0, o1, o2, some (pm_i x)], pm_i x :: st, M) := pm_R_go rfl
set_option maxRecDepth 100000 in
theorem rx_143_756 {X : pm_X} {o0 o1 o2 o3 : Option pm_V} {M : pm_M} {st : List pm_V} : pm_Rc X 143 (756, [o0, o1, o2, o3], st, M) = pm_Rc X 143 (757, [o0, o1, o2, o3], pm_i (nI 1) :: st, M) := pm_R_go rfl
set_option maxRecDepth 100000 in
theorem rx_143_757 {X : pm_X} {o0 o1 o2 o3 : Option pm_V} {M : pm_M} {st : List pm_V} {a b : Int32} : pm_Rc X 143 (757, [o0, o1, o2, o3], pm_i b :: pm_i a :: st, M) = pm_Rc X 143 (758, [o0, o1, o2, o3], pm_i (a + b) :: st, M) := pm_R_go rfl
set_option maxRecDepth 100000 in
theorem rx_143_758 {X : pm_X} {o0 o1 o2 o3 : Option pm_V} {M : pm_M} {st : List pm_V} {x : Int32} {z : Nat} : pm_Rc X 143 (758, [o0, o1, o2, o3], pm_i x :: pm_r z :: st, M) = (pm_ald X z x M).bind (fun v => pm_Rc X 143 (759, [o0, o1, o2, o3], pm_i v :: st, M)) := pm_R_ald rfl
set_option maxRecDepth 100000 in
theorem rx_143_759 {X : pm_X} {o1 o2 o3 : Option pm_V} {M : pm_M} {st : List pm_V} {x : Nat} : pm_Rc X 143 (759, [some (pm_r x), o1, o2, o3], st, M) = pm_Rc X 143 (760, [some (pm_r x), o1, o2, o3], pm_r x :: st, M) := pm_R_go rfl
set_option maxRecDepth 100000 in
theorem rx_143_760 {X : pm_X} {o0 o1 o2 : Option pm_V} {M : pm_M} {st : List pm_V} {x : Int32} : pm_Rc X 143 (760, [o0, o1, o2, some (pm_i x)], st, M) = pm_Rc X 143 (761, [o0, o1, o2, some (pm_i x)], pm_i x :: st, M) := pm_R_go rfl
set_option maxRecDepth 100000 in
theorem rx_143_761 {X : pm_X} {o0 o1 o2 o3 : Option pm_V} {M : pm_M} {st : List pm_V} : pm_Rc X 143 (761, [o0, o1, o2, o3], st, M) = pm_Rc X 143 (762, [o0, o1, o2, o3], pm_i (nI 2) :: st, M) := pm_R_go rfl
set_option maxRecDepth 100000 in
theorem rx_143_762 {X : pm_X} {o0 o1 o2 o3 : Option pm_V} {M : pm_M} {st : List pm_V} {a b : Int32} : pm_Rc X 143 (762, [o0, o1, o2, o3], pm_i b :: pm_i a :: st, M) = pm_Rc X 143 (763, [o0, o1, o2, o3], pm_i (a + b) :: st, M) := pm_R_go rfl
set_option maxRecDepth 100000 in
theorem rx_143_763 {X : pm_X} {o0 o1 o2 o3 : Option pm_V} {M : pm_M} {st : List pm_V} {x : Int32} {z : Nat} : pm_Rc X 143 (763, [o0, o1, o2, o3], pm_i x :: pm_r z :: st, M) = (pm_ald X z x M).bind (fun v => pm_Rc X 143 (764, [o0, o1, o2, o3], pm_i v :: st, M)) := pm_R_ald rfl
set_option maxRecDepth 100000 in
theorem rx_143_764 {X : pm_X} {o0 o1 o2 o3 : Option pm_V} {M : pm_M} {a0 : Int32} {a1 : Int32} {w0 : pm_V} : pm_Rc X 143 (764, [o0, o1, o2, o3], [pm_i a1, pm_i a0, pm_r 23, w0], M) = (pm_Rc pm_X0 126 (0, [some (pm_r 23), some (pm_i a0), some (pm_i a1), none, none], [], M)).bind (fun r => pm_Rc X 143 (767, [o0, o1, o2, o3], pm_psh r.1 [w0], r.2)) := pm_R_call rfl (Nat.le_of_ble_eq_true rfl) rfl
set_option maxRecDepth 100000 in
theorem rx_143_767 {X : pm_X} {o0 o1 o2 o3 : Option pm_V} {M : pm_M} {st : List pm_V} {a b : Int64} : pm_Rc X 143 (767, [o0, o1, o2, o3], pm_l b :: pm_l a :: st, M) = pm_Rc X 143 (768, [o0, o1, o2, o3], pm_i (lg_cmp a b) :: st, M) := pm_R_go rfl
set_option maxRecDepth 100000 in
theorem rx_143_768 {X : pm_X} {o0 o1 o2 o3 : Option pm_V} {M : pm_M} {st : List pm_V} {a : Int32} : pm_Rc X 143 (768, [o0, o1, o2, o3], pm_i a :: st, M) = if a = 0 then pm_Rc X 143 (1117, [o0, o1, o2, o3], st, M) else pm_Rc X 143 (771, [o0, o1, o2, o3], st, M) := pm_R_ifeq rfl
set_option maxRecDepth 100000 in
theorem rx_143_771 {X : pm_X} {o0 o1 o2 o3 : Option pm_V} {M : pm_M} {st : List pm_V} : pm_Rc X 143 (771, [o0, o1, o2, o3], st, M) = pm_Rc X 143 (772, [o0, o1, o2, o3], pm_i (nI 0) :: st, M) := pm_R_go rfl
set_option maxRecDepth 100000 in
theorem rx_143_772_0 {X : pm_X} {o0 o1 o2 o3 : Option pm_V} {M : pm_M} : pm_Rc X 143 (772, [o0, o1, o2, o3], [pm_i (nI 0)], M) = some (some (pm_i (nI 0)), M) := pm_R_ret rfl
set_option maxRecDepth 100000 in
theorem rx_143_772_1 {X : pm_X} {o0 o1 o2 o3 : Option pm_V} {M : pm_M} : pm_Rc X 143 (772, [o0, o1, o2, o3], [pm_i (nI 1)], M) = some (some (pm_i (nI 1)), M) := pm_R_ret rfl
set_option maxRecDepth 100000 in
theorem rx_143_773 {X : pm_X} {o0 o2 o3 : Option pm_V} {M : pm_M} {st : List pm_V} {x : Nat} : pm_Rc X 143 (773, [o0, some (pm_r x), o2, o3], st, M) = pm_Rc X 143 (774, [o0, some (pm_r x), o2, o3], pm_r x :: st, M) := pm_R_go rfl
set_option maxRecDepth 100000 in
theorem rx_143_774 {X : pm_X} {o1 o2 o3 : Option pm_V} {M : pm_M} {st : List pm_V} {x : Nat} : pm_Rc X 143 (774, [some (pm_r x), o1, o2, o3], st, M) = pm_Rc X 143 (775, [some (pm_r x), o1, o2, o3], pm_r x :: st, M) := pm_R_go rfl
set_option maxRecDepth 100000 in
theorem rx_143_775 {X : pm_X} {o0 o1 o2 : Option pm_V} {M : pm_M} {st : List pm_V} {x : Int32} : pm_Rc X 143 (775, [o0, o1, o2, some (pm_i x)], st, M) = pm_Rc X 143 (776, [o0, o1, o2, some (pm_i x)], pm_i x :: st, M) := pm_R_go rfl
set_option maxRecDepth 100000 in
theorem rx_143_776 {X : pm_X} {o0 o1 o2 o3 : Option pm_V} {M : pm_M} {st : List pm_V} : pm_Rc X 143 (776, [o0, o1, o2, o3], st, M) = pm_Rc X 143 (777, [o0, o1, o2, o3], pm_i (nI 1) :: st, M) := pm_R_go rfl
set_option maxRecDepth 100000 in
theorem rx_143_777 {X : pm_X} {o0 o1 o2 o3 : Option pm_V} {M : pm_M} {st : List pm_V} {a b : Int32} : pm_Rc X 143 (777, [o0, o1, o2, o3], pm_i b :: pm_i a :: st, M) = pm_Rc X 143 (778, [o0, o1, o2, o3], pm_i (a + b) :: st, M) := pm_R_go rfl
set_option maxRecDepth 100000 in
theorem rx_143_778 {X : pm_X} {o0 o1 o2 o3 : Option pm_V} {M : pm_M} {st : List pm_V} {x : Int32} {z : Nat} : pm_Rc X 143 (778, [o0, o1, o2, o3], pm_i x :: pm_r z :: st, M) = (pm_ald X z x M).bind (fun v => pm_Rc X 143 (779, [o0, o1, o2, o3], pm_i v :: st, M)) := pm_R_ald rfl
set_option maxRecDepth 100000 in
theorem rx_143_779 {X : pm_X} {o1 o2 o3 : Option pm_V} {M : pm_M} {st : List pm_V} {x : Nat} : pm_Rc X 143 (779, [some (pm_r x), o1, o2, o3], st, M) = pm_Rc X 143 (780, [some (pm_r x), o1, o2, o3], pm_r x :: st, M) := pm_R_go rfl
set_option maxRecDepth 100000 in
theorem rx_143_780 {X : pm_X} {o0 o1 o2 : Option pm_V} {M : pm_M} {st : List pm_V} {x : Int32} : pm_Rc X 143 (780, [o0, o1, o2, some (pm_i x)], st, M) = pm_Rc X 143 (781, [o0, o1, o2, some (pm_i x)], pm_i x :: st, M) := pm_R_go rfl
set_option maxRecDepth 100000 in
theorem rx_143_781 {X : pm_X} {o0 o1 o2 o3 : Option pm_V} {M : pm_M} {st : List pm_V} : pm_Rc X 143 (781, [o0, o1, o2, o3], st, M) = pm_Rc X 143 (782, [o0, o1, o2, o3], pm_i (nI 2) :: st, M) := pm_R_go rfl
set_option maxRecDepth 100000 in
theorem rx_143_782 {X : pm_X} {o0 o1 o2 o3 : Option pm_V} {M : pm_M} {st : List pm_V} {a b : Int32} : pm_Rc X 143 (782, [o0, o1, o2, o3], pm_i b :: pm_i a :: st, M) = pm_Rc X 143 (783, [o0, o1, o2, o3], pm_i (a + b) :: st, M) := pm_R_go rfl
set_option maxRecDepth 100000 in
theorem rx_143_783 {X : pm_X} {o0 o1 o2 o3 : Option pm_V} {M : pm_M} {st : List pm_V} {x : Int32} {z : Nat} : pm_Rc X 143 (783, [o0, o1, o2, o3], pm_i x :: pm_r z :: st, M) = (pm_ald X z x M).bind (fun v => pm_Rc X 143 (784, [o0, o1, o2, o3], pm_i v :: st, M)) := pm_R_ald rfl
set_option maxRecDepth 100000 in
theorem rx_143_784 {X : pm_X} {o1 o2 o3 : Option pm_V} {M : pm_M} {st : List pm_V} {x : Nat} : pm_Rc X 143 (784, [some (pm_r x), o1, o2, o3], st, M) = pm_Rc X 143 (785, [some (pm_r x), o1, o2, o3], pm_r x :: st, M) := pm_R_go rfl
set_option maxRecDepth 100000 in
theorem rx_143_785 {X : pm_X} {o0 o1 o2 : Option pm_V} {M : pm_M} {st : List pm_V} {x : Int32} : pm_Rc X 143 (785, [o0, o1, o2, some (pm_i x)], st, M) = pm_Rc X 143 (786, [o0, o1, o2, some (pm_i x)], pm_i x :: st, M) := pm_R_go rfl
set_option maxRecDepth 100000 in
theorem rx_143_786 {X : pm_X} {o0 o1 o2 o3 : Option pm_V} {M : pm_M} {st : List pm_V} : pm_Rc X 143 (786, [o0, o1, o2, o3], st, M) = pm_Rc X 143 (787, [o0, o1, o2, o3], pm_i (nI 3) :: st, M) := pm_R_go rfl
set_option maxRecDepth 100000 in
theorem rx_143_787 {X : pm_X} {o0 o1 o2 o3 : Option pm_V} {M : pm_M} {st : List pm_V} {a b : Int32} : pm_Rc X 143 (787, [o0, o1, o2, o3], pm_i b :: pm_i a :: st, M) = pm_Rc X 143 (788, [o0, o1, o2, o3], pm_i (a + b) :: st, M) := pm_R_go rfl
set_option maxRecDepth 100000 in
theorem rx_143_788 {X : pm_X} {o0 o1 o2 o3 : Option pm_V} {M : pm_M} {st : List pm_V} {x : Int32} {z : Nat} : pm_Rc X 143 (788, [o0, o1, o2, o3], pm_i x :: pm_r z :: st, M) = (pm_ald X z x M).bind (fun v => pm_Rc X 143 (789, [o0, o1, o2, o3], pm_i v :: st, M)) := pm_R_ald rfl
set_option maxRecDepth 100000 in
theorem rx_143_789 {X : pm_X} {o0 o1 o2 o3 : Option pm_V} {M : pm_M} {a0 : Int32} {a1 : Int32} {a2 : Int32} : pm_Rc X 143 (789, [o0, o1, o2, o3], [pm_i a2, pm_i a1, pm_i a0, pm_r 0], M) = (pm_Rc pm_X0 64 (0, [some (pm_r 0), some (pm_i a0), some (pm_i a1), some (pm_i a2)], [], M)).bind (fun r => pm_Rc X 143 (792, [o0, o1, o2, o3], pm_psh r.1 [], r.2)) := pm_R_call rfl (Nat.le_of_ble_eq_true rfl) rfl
set_option maxRecDepth 100000 in
theorem rx_143_792 {X : pm_X} {o0 o1 o3 : Option pm_V} {M : pm_M} {st : List pm_V} {x : Nat} : pm_Rc X 143 (792, [o0, o1, some (pm_r x), o3], st, M) = pm_Rc X 143 (793, [o0, o1, some (pm_r x), o3], pm_r x :: st, M) := pm_R_go rfl
set_option maxRecDepth 100000 in
theorem rx_143_793 {X : pm_X} {o1 o2 o3 : Option pm_V} {M : pm_M} {st : List pm_V} {x : Nat} : pm_Rc X 143 (793, [some (pm_r x), o1, o2, o3], st, M) = pm_Rc X 143 (794, [some (pm_r x), o1, o2, o3], pm_r x :: st, M) := pm_R_go rfl
set_option maxRecDepth 100000 in
theorem rx_143_794 {X : pm_X} {o0 o1 o2 : Option pm_V} {M : pm_M} {st : List pm_V} {x : Int32} : pm_Rc X 143 (794, [o0, o1, o2, some (pm_i x)], st, M) = pm_Rc X 143 (795, [o0, o1, o2, some (pm_i x)], pm_i x :: st, M) := pm_R_go rfl
set_option maxRecDepth 100000 in
theorem rx_143_795 {X : pm_X} {o0 o1 o2 o3 : Option pm_V} {M : pm_M} {st : List pm_V} : pm_Rc X 143 (795, [o0, o1, o2, o3], st, M) = pm_Rc X 143 (796, [o0, o1, o2, o3], pm_i (nI 1) :: st, M) := pm_R_go rfl
set_option maxRecDepth 100000 in
theorem rx_143_796 {X : pm_X} {o0 o1 o2 o3 : Option pm_V} {M : pm_M} {st : List pm_V} {a b : Int32} : pm_Rc X 143 (796, [o0, o1, o2, o3], pm_i b :: pm_i a :: st, M) = pm_Rc X 143 (797, [o0, o1, o2, o3], pm_i (a + b) :: st, M) := pm_R_go rfl
set_option maxRecDepth 100000 in
theorem rx_143_797 {X : pm_X} {o0 o1 o2 o3 : Option pm_V} {M : pm_M} {st : List pm_V} {x : Int32} {z : Nat} : pm_Rc X 143 (797, [o0, o1, o2, o3], pm_i x :: pm_r z :: st, M) = (pm_ald X z x M).bind (fun v => pm_Rc X 143 (798, [o0, o1, o2, o3], pm_i v :: st, M)) := pm_R_ald rfl
set_option maxRecDepth 100000 in
theorem rx_143_798 {X : pm_X} {o1 o2 o3 : Option pm_V} {M : pm_M} {st : List pm_V} {x : Nat} : pm_Rc X 143 (798, [some (pm_r x), o1, o2, o3], st, M) = pm_Rc X 143 (799, [some (pm_r x), o1, o2, o3], pm_r x :: st, M) := pm_R_go rfl
set_option maxRecDepth 100000 in
theorem rx_143_799 {X : pm_X} {o0 o1 o2 : Option pm_V} {M : pm_M} {st : List pm_V} {x : Int32} : pm_Rc X 143 (799, [o0, o1, o2, some (pm_i x)], st, M) = pm_Rc X 143 (800, [o0, o1, o2, some (pm_i x)], pm_i x :: st, M) := pm_R_go rfl
set_option maxRecDepth 100000 in
theorem rx_143_800 {X : pm_X} {o0 o1 o2 o3 : Option pm_V} {M : pm_M} {st : List pm_V} : pm_Rc X 143 (800, [o0, o1, o2, o3], st, M) = pm_Rc X 143 (801, [o0, o1, o2, o3], pm_i (nI 2) :: st, M) := pm_R_go rfl
set_option maxRecDepth 100000 in
theorem rx_143_801 {X : pm_X} {o0 o1 o2 o3 : Option pm_V} {M : pm_M} {st : List pm_V} {a b : Int32} : pm_Rc X 143 (801, [o0, o1, o2, o3], pm_i b :: pm_i a :: st, M) = pm_Rc X 143 (802, [o0, o1, o2, o3], pm_i (a + b) :: st, M) := pm_R_go rfl
set_option maxRecDepth 100000 in
theorem rx_143_802 {X : pm_X} {o0 o1 o2 o3 : Option pm_V} {M : pm_M} {st : List pm_V} {x : Int32} {z : Nat} : pm_Rc X 143 (802, [o0, o1, o2, o3], pm_i x :: pm_r z :: st, M) = (pm_ald X z x M).bind (fun v => pm_Rc X 143 (803, [o0, o1, o2, o3], pm_i v :: st, M)) := pm_R_ald rfl
set_option maxRecDepth 100000 in
theorem rx_143_803 {X : pm_X} {o1 o2 o3 : Option pm_V} {M : pm_M} {st : List pm_V} {x : Nat} : pm_Rc X 143 (803, [some (pm_r x), o1, o2, o3], st, M) = pm_Rc X 143 (804, [some (pm_r x), o1, o2, o3], pm_r x :: st, M) := pm_R_go rfl
set_option maxRecDepth 100000 in
theorem rx_143_804 {X : pm_X} {o0 o1 o2 : Option pm_V} {M : pm_M} {st : List pm_V} {x : Int32} : pm_Rc X 143 (804, [o0, o1, o2, some (pm_i x)], st, M) = pm_Rc X 143 (805, [o0, o1, o2, some (pm_i x)], pm_i x :: st, M) := pm_R_go rfl
set_option maxRecDepth 100000 in
theorem rx_143_805 {X : pm_X} {o0 o1 o2 o3 : Option pm_V} {M : pm_M} {st : List pm_V} : pm_Rc X 143 (805, [o0, o1, o2, o3], st, M) = pm_Rc X 143 (806, [o0, o1, o2, o3], pm_i (nI 3) :: st, M) := pm_R_go rfl
set_option maxRecDepth 100000 in
theorem rx_143_806 {X : pm_X} {o0 o1 o2 o3 : Option pm_V} {M : pm_M} {st : List pm_V} {a b : Int32} : pm_Rc X 143 (806, [o0, o1, o2, o3], pm_i b :: pm_i a :: st, M) = pm_Rc X 143 (807, [o0, o1, o2, o3], pm_i (a + b) :: st, M) := pm_R_go rfl
set_option maxRecDepth 100000 in
theorem rx_143_807 {X : pm_X} {o0 o1 o2 o3 : Option pm_V} {M : pm_M} {st : List pm_V} {x : Int32} {z : Nat} : pm_Rc X 143 (807, [o0, o1, o2, o3], pm_i x :: pm_r z :: st, M) = (pm_ald X z x M).bind (fun v => pm_Rc X 143 (808, [o0, o1, o2, o3], pm_i v :: st, M)) := pm_R_ald rfl
set_option maxRecDepth 100000 in
theorem rx_143_808 {X : pm_X} {o0 o1 o2 o3 : Option pm_V} {M : pm_M} {a0 : Int32} {a1 : Int32} {a2 : Int32} {w0 : pm_V} : pm_Rc X 143 (808, [o0, o1, o2, o3], [pm_i a2, pm_i a1, pm_i a0, pm_r 23, w0], M) = (pm_Rc pm_X0 128 (0, [some (pm_r 23), some (pm_i a0), some (pm_i a1), some (pm_i a2), none], [], M)).bind (fun r => pm_Rc X 143 (811, [o0, o1, o2, o3], pm_psh r.1 [w0], r.2)) := pm_R_call rfl (Nat.le_of_ble_eq_true rfl) rfl
set_option maxRecDepth 100000 in
theorem rx_143_811 {X : pm_X} {o0 o1 o2 o3 : Option pm_V} {M : pm_M} {st : List pm_V} {a b : Int32} : pm_Rc X 143 (811, [o0, o1, o2, o3], pm_i b :: pm_i a :: st, M) = if a = b then pm_Rc X 143 (1117, [o0, o1, o2, o3], st, M) else pm_Rc X 143 (814, [o0, o1, o2, o3], st, M) := pm_R_iceq rfl
set_option maxRecDepth 100000 in
theorem rx_143_814 {X : pm_X} {o0 o1 o2 o3 : Option pm_V} {M : pm_M} {st : List pm_V} : pm_Rc X 143 (814, [o0, o1, o2, o3], st, M) = pm_Rc X 143 (815, [o0, o1, o2, o3], pm_i (nI 0) :: st, M) := pm_R_go rfl
set_option maxRecDepth 100000 in
theorem rx_143_815_0 {X : pm_X} {o0 o1 o2 o3 : Option pm_V} {M : pm_M} : pm_Rc X 143 (815, [o0, o1, o2, o3], [pm_i (nI 0)], M) = some (some (pm_i (nI 0)), M) := pm_R_ret rfl
set_option maxRecDepth 100000 in
theorem rx_143_815_1 {X : pm_X} {o0 o1 o2 o3 : Option pm_V} {M : pm_M} : pm_Rc X 143 (815, [o0, o1, o2, o3], [pm_i (nI 1)], M) = some (some (pm_i (nI 1)), M) := pm_R_ret rfl
set_option maxRecDepth 100000 in
theorem rx_143_816 {X : pm_X} {o0 o2 o3 : Option pm_V} {M : pm_M} {st : List pm_V} {x : Nat} : pm_Rc X 143 (816, [o0, some (pm_r x), o2, o3], st, M) = pm_Rc X 143 (817, [o0, some (pm_r x), o2, o3], pm_r x :: st, M) := pm_R_go rfl
set_option maxRecDepth 100000 in
theorem rx_143_817 {X : pm_X} {o1 o2 o3 : Option pm_V} {M : pm_M} {st : List pm_V} {x : Nat} : pm_Rc X 143 (817, [some (pm_r x), o1, o2, o3], st, M) = pm_Rc X 143 (818, [some (pm_r x), o1, o2, o3], pm_r x :: st, M) := pm_R_go rfl
set_option maxRecDepth 100000 in
theorem rx_143_818 {X : pm_X} {o0 o1 o2 : Option pm_V} {M : pm_M} {st : List pm_V} {x : Int32} : pm_Rc X 143 (818, [o0, o1, o2, some (pm_i x)], st, M) = pm_Rc X 143 (819, [o0, o1, o2, some (pm_i x)], pm_i x :: st, M) := pm_R_go rfl
set_option maxRecDepth 100000 in
theorem rx_143_819 {X : pm_X} {o0 o1 o2 o3 : Option pm_V} {M : pm_M} {st : List pm_V} : pm_Rc X 143 (819, [o0, o1, o2, o3], st, M) = pm_Rc X 143 (820, [o0, o1, o2, o3], pm_i (nI 1) :: st, M) := pm_R_go rfl
set_option maxRecDepth 100000 in
theorem rx_143_820 {X : pm_X} {o0 o1 o2 o3 : Option pm_V} {M : pm_M} {st : List pm_V} {a b : Int32} : pm_Rc X 143 (820, [o0, o1, o2, o3], pm_i b :: pm_i a :: st, M) = pm_Rc X 143 (821, [o0, o1, o2, o3], pm_i (a + b) :: st, M) := pm_R_go rfl
set_option maxRecDepth 100000 in
theorem rx_143_821 {X : pm_X} {o0 o1 o2 o3 : Option pm_V} {M : pm_M} {st : List pm_V} {x : Int32} {z : Nat} : pm_Rc X 143 (821, [o0, o1, o2, o3], pm_i x :: pm_r z :: st, M) = (pm_ald X z x M).bind (fun v => pm_Rc X 143 (822, [o0, o1, o2, o3], pm_i v :: st, M)) := pm_R_ald rfl
set_option maxRecDepth 100000 in
theorem rx_143_822 {X : pm_X} {o0 o1 o2 o3 : Option pm_V} {M : pm_M} {a0 : Int32} : pm_Rc X 143 (822, [o0, o1, o2, o3], [pm_i a0, pm_r 0], M) = (pm_Rc pm_X0 65 (0, [some (pm_r 0), some (pm_i a0), none], [], M)).bind (fun r => pm_Rc X 143 (825, [o0, o1, o2, o3], pm_psh r.1 [], r.2)) := pm_R_call rfl (Nat.le_of_ble_eq_true rfl) rfl
set_option maxRecDepth 100000 in
theorem rx_143_825 {X : pm_X} {o0 o1 o3 : Option pm_V} {M : pm_M} {st : List pm_V} {x : Nat} : pm_Rc X 143 (825, [o0, o1, some (pm_r x), o3], st, M) = pm_Rc X 143 (826, [o0, o1, some (pm_r x), o3], pm_r x :: st, M) := pm_R_go rfl
set_option maxRecDepth 100000 in
theorem rx_143_826 {X : pm_X} {o1 o2 o3 : Option pm_V} {M : pm_M} {st : List pm_V} {x : Nat} : pm_Rc X 143 (826, [some (pm_r x), o1, o2, o3], st, M) = pm_Rc X 143 (827, [some (pm_r x), o1, o2, o3], pm_r x :: st, M) := pm_R_go rfl
set_option maxRecDepth 100000 in
theorem rx_143_827 {X : pm_X} {o0 o1 o2 : Option pm_V} {M : pm_M} {st : List pm_V} {x : Int32} : pm_Rc X 143 (827, [o0, o1, o2, some (pm_i x)], st, M) = pm_Rc X 143 (828, [o0, o1, o2, some (pm_i x)], pm_i x :: st, M) := pm_R_go rfl
set_option maxRecDepth 100000 in
theorem rx_143_828 {X : pm_X} {o0 o1 o2 o3 : Option pm_V} {M : pm_M} {st : List pm_V} : pm_Rc X 143 (828, [o0, o1, o2, o3], st, M) = pm_Rc X 143 (829, [o0, o1, o2, o3], pm_i (nI 1) :: st, M) := pm_R_go rfl
set_option maxRecDepth 100000 in
theorem rx_143_829 {X : pm_X} {o0 o1 o2 o3 : Option pm_V} {M : pm_M} {st : List pm_V} {a b : Int32} : pm_Rc X 143 (829, [o0, o1, o2, o3], pm_i b :: pm_i a :: st, M) = pm_Rc X 143 (830, [o0, o1, o2, o3], pm_i (a + b) :: st, M) := pm_R_go rfl
set_option maxRecDepth 100000 in
theorem rx_143_830 {X : pm_X} {o0 o1 o2 o3 : Option pm_V} {M : pm_M} {st : List pm_V} {x : Int32} {z : Nat} : pm_Rc X 143 (830, [o0, o1, o2, o3], pm_i x :: pm_r z :: st, M) = (pm_ald X z x M).bind (fun v => pm_Rc X 143 (831, [o0, o1, o2, o3], pm_i v :: st, M)) := pm_R_ald rfl
set_option maxRecDepth 100000 in
theorem rx_143_831 {X : pm_X} {o0 o1 o2 o3 : Option pm_V} {M : pm_M} {a0 : Int32} {w0 : pm_V} : pm_Rc X 143 (831, [o0, o1, o2, o3], [pm_i a0, pm_r 23, w0], M) = (pm_Rc pm_X0 129 (0, [some (pm_r 23), some (pm_i a0), none], [], M)).bind (fun r => pm_Rc X 143 (834, [o0, o1, o2, o3], pm_psh r.1 [w0], r.2)) := pm_R_call rfl (Nat.le_of_ble_eq_true rfl) rfl
set_option maxRecDepth 100000 in
theorem rx_143_834 {X : pm_X} {o0 o1 o2 o3 : Option pm_V} {M : pm_M} {st : List pm_V} {a b : Int32} : pm_Rc X 143 (834, [o0, o1, o2, o3], pm_i b :: pm_i a :: st, M) = if a = b then pm_Rc X 143 (1117, [o0, o1, o2, o3], st, M) else pm_Rc X 143 (837, [o0, o1, o2, o3], st, M) := pm_R_iceq rfl
set_option maxRecDepth 100000 in
theorem rx_143_837 {X : pm_X} {o0 o1 o2 o3 : Option pm_V} {M : pm_M} {st : List pm_V} : pm_Rc X 143 (837, [o0, o1, o2, o3], st, M) = pm_Rc X 143 (838, [o0, o1, o2, o3], pm_i (nI 0) :: st, M) := pm_R_go rfl
set_option maxRecDepth 100000 in
theorem rx_143_838_0 {X : pm_X} {o0 o1 o2 o3 : Option pm_V} {M : pm_M} : pm_Rc X 143 (838, [o0, o1, o2, o3], [pm_i (nI 0)], M) = some (some (pm_i (nI 0)), M) := pm_R_ret rfl
set_option maxRecDepth 100000 in
theorem rx_143_838_1 {X : pm_X} {o0 o1 o2 o3 : Option pm_V} {M : pm_M} : pm_Rc X 143 (838, [o0, o1, o2, o3], [pm_i (nI 1)], M) = some (some (pm_i (nI 1)), M) := pm_R_ret rfl
set_option maxRecDepth 100000 in
theorem rx_143_839 {X : pm_X} {o0 o2 o3 : Option pm_V} {M : pm_M} {st : List pm_V} {x : Nat} : pm_Rc X 143 (839, [o0, some (pm_r x), o2, o3], st, M) = pm_Rc X 143 (840, [o0, some (pm_r x), o2, o3], pm_r x :: st, M) := pm_R_go rfl
set_option maxRecDepth 100000 in
theorem rx_143_840 {X : pm_X} {o1 o2 o3 : Option pm_V} {M : pm_M} {st : List pm_V} {x : Nat} : pm_Rc X 143 (840, [some (pm_r x), o1, o2, o3], st, M) = pm_Rc X 143 (841, [some (pm_r x), o1, o2, o3], pm_r x :: st, M) := pm_R_go rfl
set_option maxRecDepth 100000 in
theorem rx_143_841 {X : pm_X} {o0 o1 o2 : Option pm_V} {M : pm_M} {st : List pm_V} {x : Int32} : pm_Rc X 143 (841, [o0, o1, o2, some (pm_i x)], st, M) = pm_Rc X 143 (842, [o0, o1, o2, some (pm_i x)], pm_i x :: st, M) := pm_R_go rfl
set_option maxRecDepth 100000 in
theorem rx_143_842 {X : pm_X} {o0 o1 o2 o3 : Option pm_V} {M : pm_M} {st : List pm_V} : pm_Rc X 143 (842, [o0, o1, o2, o3], st, M) = pm_Rc X 143 (843, [o0, o1, o2, o3], pm_i (nI 1) :: st, M) := pm_R_go rfl
set_option maxRecDepth 100000 in
theorem rx_143_843 {X : pm_X} {o0 o1 o2 o3 : Option pm_V} {M : pm_M} {st : List pm_V} {a b : Int32} : pm_Rc X 143 (843, [o0, o1, o2, o3], pm_i b :: pm_i a :: st, M) = pm_Rc X 143 (844, [o0, o1, o2, o3], pm_i (a + b) :: st, M) := pm_R_go rfl
set_option maxRecDepth 100000 in
theorem rx_143_844 {X : pm_X} {o0 o1 o2 o3 : Option pm_V} {M : pm_M} {st : List pm_V} {x : Int32} {z : Nat} : pm_Rc X 143 (844, [o0, o1, o2, o3], pm_i x :: pm_r z :: st, M) = (pm_ald X z x M).bind (fun v => pm_Rc X 143 (845, [o0, o1, o2, o3], pm_i v :: st, M)) := pm_R_ald rfl
set_option maxRecDepth 100000 in
theorem rx_143_845 {X : pm_X} {o1 o2 o3 : Option pm_V} {M : pm_M} {st : List pm_V} {x : Nat} : pm_Rc X 143 (845, [some (pm_r x), o1, o2, o3], st, M) = pm_Rc X 143 (846, [some (pm_r x), o1, o2, o3], pm_r x :: st, M) := pm_R_go rfl
set_option maxRecDepth 100000 in
theorem rx_143_846 {X : pm_X} {o0 o1 o2 : Option pm_V} {M : pm_M} {st : List pm_V} {x : Int32} : pm_Rc X 143 (846, [o0, o1, o2, some (pm_i x)], st, M) = pm_Rc X 143 (847, [o0, o1, o2, some (pm_i x)], pm_i x :: st, M) := pm_R_go rfl
set_option maxRecDepth 100000 in
theorem rx_143_847 {X : pm_X} {o0 o1 o2 o3 : Option pm_V} {M : pm_M} {st : List pm_V} : pm_Rc X 143 (847, [o0, o1, o2, o3], st, M) = pm_Rc X 143 (848, [o0, o1, o2, o3], pm_i (nI 2) :: st, M) := pm_R_go rfl
set_option maxRecDepth 100000 in
theorem rx_143_848 {X : pm_X} {o0 o1 o2 o3 : Option pm_V} {M : pm_M} {st : List pm_V} {a b : Int32} : pm_Rc X 143 (848, [o0, o1, o2, o3], pm_i b :: pm_i a :: st, M) = pm_Rc X 143 (849, [o0, o1, o2, o3], pm_i (a + b) :: st, M) := pm_R_go rfl
set_option maxRecDepth 100000 in
theorem rx_143_849 {X : pm_X} {o0 o1 o2 o3 : Option pm_V} {M : pm_M} {st : List pm_V} {x : Int32} {z : Nat} : pm_Rc X 143 (849, [o0, o1, o2, o3], pm_i x :: pm_r z :: st, M) = (pm_ald X z x M).bind (fun v => pm_Rc X 143 (850, [o0, o1, o2, o3], pm_i v :: st, M)) := pm_R_ald rfl
set_option maxRecDepth 100000 in
theorem rx_143_850 {X : pm_X} {o1 o2 o3 : Option pm_V} {M : pm_M} {st : List pm_V} {x : Nat} : pm_Rc X 143 (850, [some (pm_r x), o1, o2, o3], st, M) = pm_Rc X 143 (851, [some (pm_r x), o1, o2, o3], pm_r x :: st, M) := pm_R_go rfl
set_option maxRecDepth 100000 in
theorem rx_143_851 {X : pm_X} {o0 o1 o2 : Option pm_V} {M : pm_M} {st : List pm_V} {x : Int32} : pm_Rc X 143 (851, [o0, o1, o2, some (pm_i x)], st, M) = pm_Rc X 143 (852, [o0, o1, o2, some (pm_i x)], pm_i x :: st, M) := pm_R_go rfl
set_option maxRecDepth 100000 in
theorem rx_143_852 {X : pm_X} {o0 o1 o2 o3 : Option pm_V} {M : pm_M} {st : List pm_V} : pm_Rc X 143 (852, [o0, o1, o2, o3], st, M) = pm_Rc X 143 (853, [o0, o1, o2, o3], pm_i (nI 3) :: st, M) := pm_R_go rfl
set_option maxRecDepth 100000 in
theorem rx_143_853 {X : pm_X} {o0 o1 o2 o3 : Option pm_V} {M : pm_M} {st : List pm_V} {a b : Int32} : pm_Rc X 143 (853, [o0, o1, o2, o3], pm_i b :: pm_i a :: st, M) = pm_Rc X 143 (854, [o0, o1, o2, o3], pm_i (a + b) :: st, M) := pm_R_go rfl
set_option maxRecDepth 100000 in
theorem rx_143_854 {X : pm_X} {o0 o1 o2 o3 : Option pm_V} {M : pm_M} {st : List pm_V} {x : Int32} {z : Nat} : pm_Rc X 143 (854, [o0, o1, o2, o3], pm_i x :: pm_r z :: st, M) = (pm_ald X z x M).bind (fun v => pm_Rc X 143 (855, [o0, o1, o2, o3], pm_i v :: st, M)) := pm_R_ald rfl
set_option maxRecDepth 100000 in
theorem rx_143_855 {X : pm_X} {o0 o1 o2 o3 : Option pm_V} {M : pm_M} {a0 : Int32} {a1 : Int32} {a2 : Int32} : pm_Rc X 143 (855, [o0, o1, o2, o3], [pm_i a2, pm_i a1, pm_i a0, pm_r 0], M) = (pm_Rc pm_X0 66 (0, [some (pm_r 0), some (pm_i a0), some (pm_i a1), some (pm_i a2)], [], M)).bind (fun r => pm_Rc X 143 (858, [o0, o1, o2, o3], pm_psh r.1 [], r.2)) := pm_R_call rfl (Nat.le_of_ble_eq_true rfl) rfl
set_option maxRecDepth 100000 in
theorem rx_143_858 {X : pm_X} {o0 o1 o3 : Option pm_V} {M : pm_M} {st : List pm_V} {x : Nat} : pm_Rc X 143 (858, [o0, o1, some (pm_r x), o3], st, M) = pm_Rc X 143 (859, [o0, o1, some (pm_r x), o3], pm_r x :: st, M) := pm_R_go rfl
set_option maxRecDepth 100000 in
theorem rx_143_859 {X : pm_X} {o1 o2 o3 : Option pm_V} {M : pm_M} {st : List pm_V} {x : Nat} : pm_Rc X 143 (859, [some (pm_r x), o1, o2, o3], st, M) = pm_Rc X 143 (860, [some (pm_r x), o1, o2, o3], pm_r x :: st, M) := pm_R_go rfl
set_option maxRecDepth 100000 in
theorem rx_143_860 {X : pm_X} {o0 o1 o2 : Option pm_V} {M : pm_M} {st : List pm_V} {x : Int32} : pm_Rc X 143 (860, [o0, o1, o2, some (pm_i x)], st, M) = pm_Rc X 143 (861, [o0, o1, o2, some (pm_i x)], pm_i x :: st, M) := pm_R_go rfl
set_option maxRecDepth 100000 in
theorem rx_143_861 {X : pm_X} {o0 o1 o2 o3 : Option pm_V} {M : pm_M} {st : List pm_V} : pm_Rc X 143 (861, [o0, o1, o2, o3], st, M) = pm_Rc X 143 (862, [o0, o1, o2, o3], pm_i (nI 1) :: st, M) := pm_R_go rfl
set_option maxRecDepth 100000 in
theorem rx_143_862 {X : pm_X} {o0 o1 o2 o3 : Option pm_V} {M : pm_M} {st : List pm_V} {a b : Int32} : pm_Rc X 143 (862, [o0, o1, o2, o3], pm_i b :: pm_i a :: st, M) = pm_Rc X 143 (863, [o0, o1, o2, o3], pm_i (a + b) :: st, M) := pm_R_go rfl
set_option maxRecDepth 100000 in
theorem rx_143_863 {X : pm_X} {o0 o1 o2 o3 : Option pm_V} {M : pm_M} {st : List pm_V} {x : Int32} {z : Nat} : pm_Rc X 143 (863, [o0, o1, o2, o3], pm_i x :: pm_r z :: st, M) = (pm_ald X z x M).bind (fun v => pm_Rc X 143 (864, [o0, o1, o2, o3], pm_i v :: st, M)) := pm_R_ald rfl
set_option maxRecDepth 100000 in
theorem rx_143_864 {X : pm_X} {o1 o2 o3 : Option pm_V} {M : pm_M} {st : List pm_V} {x : Nat} : pm_Rc X 143 (864, [some (pm_r x), o1, o2, o3], st, M) = pm_Rc X 143 (865, [some (pm_r x), o1, o2, o3], pm_r x :: st, M) := pm_R_go rfl
set_option maxRecDepth 100000 in
theorem rx_143_865 {X : pm_X} {o0 o1 o2 : Option pm_V} {M : pm_M} {st : List pm_V} {x : Int32} : pm_Rc X 143 (865, [o0, o1, o2, some (pm_i x)], st, M) = pm_Rc X 143 (866, [o0, o1, o2, some (pm_i x)], pm_i x :: st, M) := pm_R_go rfl
set_option maxRecDepth 100000 in
theorem rx_143_866 {X : pm_X} {o0 o1 o2 o3 : Option pm_V} {M : pm_M} {st : List pm_V} : pm_Rc X 143 (866, [o0, o1, o2, o3], st, M) = pm_Rc X 143 (867, [o0, o1, o2, o3], pm_i (nI 2) :: st, M) := pm_R_go rfl
set_option maxRecDepth 100000 in
theorem rx_143_867 {X : pm_X} {o0 o1 o2 o3 : Option pm_V} {M : pm_M} {st : List pm_V} {a b : Int32} : pm_Rc X 143 (867, [o0, o1, o2, o3], pm_i b :: pm_i a :: st, M) = pm_Rc X 143 (868, [o0, o1, o2, o3], pm_i (a + b) :: st, M) := pm_R_go rfl
set_option maxRecDepth 100000 in
theorem rx_143_868 {X : pm_X} {o0 o1 o2 o3 : Option pm_V} {M : pm_M} {st : List pm_V} {x : Int32} {z : Nat} : pm_Rc X 143 (868, [o0, o1, o2, o3], pm_i x :: pm_r z :: st, M) = (pm_ald X z x M).bind (fun v => pm_Rc X 143 (869, [o0, o1, o2, o3], pm_i v :: st, M)) := pm_R_ald rfl
set_option maxRecDepth 100000 in
theorem rx_143_869 {X : pm_X} {o1 o2 o3 : Option pm_V} {M : pm_M} {st : List pm_V} {x : Nat} : pm_Rc X 143 (869, [some (pm_r x), o1, o2, o3], st, M) = pm_Rc X 143 (870, [some (pm_r x), o1, o2, o3], pm_r x :: st, M) := pm_R_go rfl
set_option maxRecDepth 100000 in
theorem rx_143_870 {X : pm_X} {o0 o1 o2 : Option pm_V} {M : pm_M} {st : List pm_V} {x : Int32} : pm_Rc X 143 (870, [o0, o1, o2, some (pm_i x)], st, M) = pm_Rc X 143 (871, [o0, o1, o2, some (pm_i x)], pm_i x :: st, M) := pm_R_go rfl
set_option maxRecDepth 100000 in
theorem rx_143_871 {X : pm_X} {o0 o1 o2 o3 : Option pm_V} {M : pm_M} {st : List pm_V} : pm_Rc X 143 (871, [o0, o1, o2, o3], st, M) = pm_Rc X 143 (872, [o0, o1, o2, o3], pm_i (nI 3) :: st, M) := pm_R_go rfl
set_option maxRecDepth 100000 in
theorem rx_143_872 {X : pm_X} {o0 o1 o2 o3 : Option pm_V} {M : pm_M} {st : List pm_V} {a b : Int32} : pm_Rc X 143 (872, [o0, o1, o2, o3], pm_i b :: pm_i a :: st, M) = pm_Rc X 143 (873, [o0, o1, o2, o3], pm_i (a + b) :: st, M) := pm_R_go rfl
set_option maxRecDepth 100000 in
theorem rx_143_873 {X : pm_X} {o0 o1 o2 o3 : Option pm_V} {M : pm_M} {st : List pm_V} {x : Int32} {z : Nat} : pm_Rc X 143 (873, [o0, o1, o2, o3], pm_i x :: pm_r z :: st, M) = (pm_ald X z x M).bind (fun v => pm_Rc X 143 (874, [o0, o1, o2, o3], pm_i v :: st, M)) := pm_R_ald rfl
set_option maxRecDepth 100000 in
theorem rx_143_874 {X : pm_X} {o0 o1 o2 o3 : Option pm_V} {M : pm_M} {a0 : Int32} {a1 : Int32} {a2 : Int32} {w0 : pm_V} : pm_Rc X 143 (874, [o0, o1, o2, o3], [pm_i a2, pm_i a1, pm_i a0, pm_r 23, w0], M) = (pm_Rc pm_X0 130 (0, [some (pm_r 23), some (pm_i a0), some (pm_i a1), some (pm_i a2)], [], M)).bind (fun r => pm_Rc X 143 (877, [o0, o1, o2, o3], pm_psh r.1 [w0], r.2)) := pm_R_call rfl (Nat.le_of_ble_eq_true rfl) rfl
set_option maxRecDepth 100000 in
theorem rx_143_877 {X : pm_X} {o0 o1 o2 o3 : Option pm_V} {M : pm_M} {st : List pm_V} {a b : Int32} : pm_Rc X 143 (877, [o0, o1, o2, o3], pm_i b :: pm_i a :: st, M) = if a = b then pm_Rc X 143 (1117, [o0, o1, o2, o3], st, M) else pm_Rc X 143 (880, [o0, o1, o2, o3], st, M) := pm_R_iceq rfl
set_option maxRecDepth 100000 in
theorem rx_143_880 {X : pm_X} {o0 o1 o2 o3 : Option pm_V} {M : pm_M} {st : List pm_V} : pm_Rc X 143 (880, [o0, o1, o2, o3], st, M) = pm_Rc X 143 (881, [o0, o1, o2, o3], pm_i (nI 0) :: st, M) := pm_R_go rfl
set_option maxRecDepth 100000 in
theorem rx_143_881_0 {X : pm_X} {o0 o1 o2 o3 : Option pm_V} {M : pm_M} : pm_Rc X 143 (881, [o0, o1, o2, o3], [pm_i (nI 0)], M) = some (some (pm_i (nI 0)), M) := pm_R_ret rfl
set_option maxRecDepth 100000 in
theorem rx_143_881_1 {X : pm_X} {o0 o1 o2 o3 : Option pm_V} {M : pm_M} : pm_Rc X 143 (881, [o0, o1, o2, o3], [pm_i (nI 1)], M) = some (some (pm_i (nI 1)), M) := pm_R_ret rfl
set_option maxRecDepth 100000 in
theorem rx_143_882 {X : pm_X} {o0 o2 o3 : Option pm_V} {M : pm_M} {st : List pm_V} {x : Nat} : pm_Rc X 143 (882, [o0, some (pm_r x), o2, o3], st, M) = pm_Rc X 143 (883, [o0, some (pm_r x), o2, o3], pm_r x :: st, M) := pm_R_go rfl
set_option maxRecDepth 100000 in
theorem rx_143_883 {X : pm_X} {o1 o2 o3 : Option pm_V} {M : pm_M} {st : List pm_V} {x : Nat} : pm_Rc X 143 (883, [some (pm_r x), o1, o2, o3], st, M) = pm_Rc X 143 (884, [some (pm_r x), o1, o2, o3], pm_r x :: st, M) := pm_R_go rfl
set_option maxRecDepth 100000 in
theorem rx_143_884 {X : pm_X} {o0 o1 o2 : Option pm_V} {M : pm_M} {st : List pm_V} {x : Int32} : pm_Rc X 143 (884, [o0, o1, o2, some (pm_i x)], st, M) = pm_Rc X 143 (885, [o0, o1, o2, some (pm_i x)], pm_i x :: st, M) := pm_R_go rfl
set_option maxRecDepth 100000 in
theorem rx_143_885 {X : pm_X} {o0 o1 o2 o3 : Option pm_V} {M : pm_M} {st : List pm_V} : pm_Rc X 143 (885, [o0, o1, o2, o3], st, M) = pm_Rc X 143 (886, [o0, o1, o2, o3], pm_i (nI 1) :: st, M) := pm_R_go rfl
set_option maxRecDepth 100000 in
theorem rx_143_886 {X : pm_X} {o0 o1 o2 o3 : Option pm_V} {M : pm_M} {st : List pm_V} {a b : Int32} : pm_Rc X 143 (886, [o0, o1, o2, o3], pm_i b :: pm_i a :: st, M) = pm_Rc X 143 (887, [o0, o1, o2, o3], pm_i (a + b) :: st, M) := pm_R_go rfl
set_option maxRecDepth 100000 in
theorem rx_143_887 {X : pm_X} {o0 o1 o2 o3 : Option pm_V} {M : pm_M} {st : List pm_V} {x : Int32} {z : Nat} : pm_Rc X 143 (887, [o0, o1, o2, o3], pm_i x :: pm_r z :: st, M) = (pm_ald X z x M).bind (fun v => pm_Rc X 143 (888, [o0, o1, o2, o3], pm_i v :: st, M)) := pm_R_ald rfl
set_option maxRecDepth 100000 in
theorem rx_143_888 {X : pm_X} {o1 o2 o3 : Option pm_V} {M : pm_M} {st : List pm_V} {x : Nat} : pm_Rc X 143 (888, [some (pm_r x), o1, o2, o3], st, M) = pm_Rc X 143 (889, [some (pm_r x), o1, o2, o3], pm_r x :: st, M) := pm_R_go rfl
set_option maxRecDepth 100000 in
theorem rx_143_889 {X : pm_X} {o0 o1 o2 : Option pm_V} {M : pm_M} {st : List pm_V} {x : Int32} : pm_Rc X 143 (889, [o0, o1, o2, some (pm_i x)], st, M) = pm_Rc X 143 (890, [o0, o1, o2, some (pm_i x)], pm_i x :: st, M) := pm_R_go rfl
set_option maxRecDepth 100000 in
theorem rx_143_890 {X : pm_X} {o0 o1 o2 o3 : Option pm_V} {M : pm_M} {st : List pm_V} : pm_Rc X 143 (890, [o0, o1, o2, o3], st, M) = pm_Rc X 143 (891, [o0, o1, o2, o3], pm_i (nI 2) :: st, M) := pm_R_go rfl
set_option maxRecDepth 100000 in
theorem rx_143_891 {X : pm_X} {o0 o1 o2 o3 : Option pm_V} {M : pm_M} {st : List pm_V} {a b : Int32} : pm_Rc X 143 (891, [o0, o1, o2, o3], pm_i b :: pm_i a :: st, M) = pm_Rc X 143 (892, [o0, o1, o2, o3], pm_i (a + b) :: st, M) := pm_R_go rfl
set_option maxRecDepth 100000 in
theorem rx_143_892 {X : pm_X} {o0 o1 o2 o3 : Option pm_V} {M : pm_M} {st : List pm_V} {x : Int32} {z : Nat} : pm_Rc X 143 (892, [o0, o1, o2, o3], pm_i x :: pm_r z :: st, M) = (pm_ald X z x M).bind (fun v => pm_Rc X 143 (893, [o0, o1, o2, o3], pm_i v :: st, M)) := pm_R_ald rfl
set_option maxRecDepth 100000 in
theorem rx_143_893 {X : pm_X} {o1 o2 o3 : Option pm_V} {M : pm_M} {st : List pm_V} {x : Nat} : pm_Rc X 143 (893, [some (pm_r x), o1, o2, o3], st, M) = pm_Rc X 143 (894, [some (pm_r x), o1, o2, o3], pm_r x :: st, M) := pm_R_go rfl
set_option maxRecDepth 100000 in
theorem rx_143_894 {X : pm_X} {o0 o1 o2 : Option pm_V} {M : pm_M} {st : List pm_V} {x : Int32} : pm_Rc X 143 (894, [o0, o1, o2, some (pm_i x)], st, M) = pm_Rc X 143 (895, [o0, o1, o2, some (pm_i x)], pm_i x :: st, M) := pm_R_go rfl
set_option maxRecDepth 100000 in
theorem rx_143_895 {X : pm_X} {o0 o1 o2 o3 : Option pm_V} {M : pm_M} {st : List pm_V} : pm_Rc X 143 (895, [o0, o1, o2, o3], st, M) = pm_Rc X 143 (896, [o0, o1, o2, o3], pm_i (nI 3) :: st, M) := pm_R_go rfl
set_option maxRecDepth 100000 in
theorem rx_143_896 {X : pm_X} {o0 o1 o2 o3 : Option pm_V} {M : pm_M} {st : List pm_V} {a b : Int32} : pm_Rc X 143 (896, [o0, o1, o2, o3], pm_i b :: pm_i a :: st, M) = pm_Rc X 143 (897, [o0, o1, o2, o3], pm_i (a + b) :: st, M) := pm_R_go rfl
set_option maxRecDepth 100000 in
theorem rx_143_897 {X : pm_X} {o0 o1 o2 o3 : Option pm_V} {M : pm_M} {st : List pm_V} {x : Int32} {z : Nat} : pm_Rc X 143 (897, [o0, o1, o2, o3], pm_i x :: pm_r z :: st, M) = (pm_ald X z x M).bind (fun v => pm_Rc X 143 (898, [o0, o1, o2, o3], pm_i v :: st, M)) := pm_R_ald rfl
set_option maxRecDepth 100000 in
theorem rx_143_898 {X : pm_X} {o0 o1 o2 o3 : Option pm_V} {M : pm_M} {a0 : Int32} {a1 : Int32} {a2 : Int32} : pm_Rc X 143 (898, [o0, o1, o2, o3], [pm_i a2, pm_i a1, pm_i a0, pm_r 0], M) = (pm_Rc pm_X0 67 (0, [some (pm_r 0), some (pm_i a0), some (pm_i a1), some (pm_i a2)], [], M)).bind (fun r => pm_Rc X 143 (901, [o0, o1, o2, o3], pm_psh r.1 [], r.2)) := pm_R_call rfl (Nat.le_of_ble_eq_true rfl) rfl
set_option maxRecDepth 100000 in
theorem rx_143_901 {X : pm_X} {o0 o1 o3 : Option pm_V} {M : pm_M} {st : List pm_V} {x : Nat} : pm_Rc X 143 (901, [o0, o1, some (pm_r x), o3], st, M) = pm_Rc X 143 (902, [o0, o1, some (pm_r x), o3], pm_r x :: st, M) := pm_R_go rfl
set_option maxRecDepth 100000 in
theorem rx_143_902 {X : pm_X} {o1 o2 o3 : Option pm_V} {M : pm_M} {st : List pm_V} {x : Nat} : pm_Rc X 143 (902, [some (pm_r x), o1, o2, o3], st, M) = pm_Rc X 143 (903, [some (pm_r x), o1, o2, o3], pm_r x :: st, M) := pm_R_go rfl
set_option maxRecDepth 100000 in
theorem rx_143_903 {X : pm_X} {o0 o1 o2 : Option pm_V} {M : pm_M} {st : List pm_V} {x : Int32} : pm_Rc X 143 (903, [o0, o1, o2, some (pm_i x)], st, M) = pm_Rc X 143 (904, [o0, o1, o2, some (pm_i x)], pm_i x :: st, M) := pm_R_go rfl
set_option maxRecDepth 100000 in
theorem rx_143_904 {X : pm_X} {o0 o1 o2 o3 : Option pm_V} {M : pm_M} {st : List pm_V} : pm_Rc X 143 (904, [o0, o1, o2, o3], st, M) = pm_Rc X 143 (905, [o0, o1, o2, o3], pm_i (nI 1) :: st, M) := pm_R_go rfl
set_option maxRecDepth 100000 in
theorem rx_143_905 {X : pm_X} {o0 o1 o2 o3 : Option pm_V} {M : pm_M} {st : List pm_V} {a b : Int32} : pm_Rc X 143 (905, [o0, o1, o2, o3], pm_i b :: pm_i a :: st, M) = pm_Rc X 143 (906, [o0, o1, o2, o3], pm_i (a + b) :: st, M) := pm_R_go rfl
set_option maxRecDepth 100000 in
theorem rx_143_906 {X : pm_X} {o0 o1 o2 o3 : Option pm_V} {M : pm_M} {st : List pm_V} {x : Int32} {z : Nat} : pm_Rc X 143 (906, [o0, o1, o2, o3], pm_i x :: pm_r z :: st, M) = (pm_ald X z x M).bind (fun v => pm_Rc X 143 (907, [o0, o1, o2, o3], pm_i v :: st, M)) := pm_R_ald rfl
set_option maxRecDepth 100000 in
theorem rx_143_907 {X : pm_X} {o1 o2 o3 : Option pm_V} {M : pm_M} {st : List pm_V} {x : Nat} : pm_Rc X 143 (907, [some (pm_r x), o1, o2, o3], st, M) = pm_Rc X 143 (908, [some (pm_r x), o1, o2, o3], pm_r x :: st, M) := pm_R_go rfl
set_option maxRecDepth 100000 in
theorem rx_143_908 {X : pm_X} {o0 o1 o2 : Option pm_V} {M : pm_M} {st : List pm_V} {x : Int32} : pm_Rc X 143 (908, [o0, o1, o2, some (pm_i x)], st, M) = pm_Rc X 143 (909, [o0, o1, o2, some (pm_i x)], pm_i x :: st, M) := pm_R_go rfl
set_option maxRecDepth 100000 in
theorem rx_143_909 {X : pm_X} {o0 o1 o2 o3 : Option pm_V} {M : pm_M} {st : List pm_V} : pm_Rc X 143 (909, [o0, o1, o2, o3], st, M) = pm_Rc X 143 (910, [o0, o1, o2, o3], pm_i (nI 2) :: st, M) := pm_R_go rfl
set_option maxRecDepth 100000 in
theorem rx_143_910 {X : pm_X} {o0 o1 o2 o3 : Option pm_V} {M : pm_M} {st : List pm_V} {a b : Int32} : pm_Rc X 143 (910, [o0, o1, o2, o3], pm_i b :: pm_i a :: st, M) = pm_Rc X 143 (911, [o0, o1, o2, o3], pm_i (a + b) :: st, M) := pm_R_go rfl
set_option maxRecDepth 100000 in
theorem rx_143_911 {X : pm_X} {o0 o1 o2 o3 : Option pm_V} {M : pm_M} {st : List pm_V} {x : Int32} {z : Nat} : pm_Rc X 143 (911, [o0, o1, o2, o3], pm_i x :: pm_r z :: st, M) = (pm_ald X z x M).bind (fun v => pm_Rc X 143 (912, [o0, o1, o2, o3], pm_i v :: st, M)) := pm_R_ald rfl
set_option maxRecDepth 100000 in
theorem rx_143_912 {X : pm_X} {o1 o2 o3 : Option pm_V} {M : pm_M} {st : List pm_V} {x : Nat} : pm_Rc X 143 (912, [some (pm_r x), o1, o2, o3], st, M) = pm_Rc X 143 (913, [some (pm_r x), o1, o2, o3], pm_r x :: st, M) := pm_R_go rfl
set_option maxRecDepth 100000 in
theorem rx_143_913 {X : pm_X} {o0 o1 o2 : Option pm_V} {M : pm_M} {st : List pm_V} {x : Int32} : pm_Rc X 143 (913, [o0, o1, o2, some (pm_i x)], st, M) = pm_Rc X 143 (914, [o0, o1, o2, some (pm_i x)], pm_i x :: st, M) := pm_R_go rfl
set_option maxRecDepth 100000 in
theorem rx_143_914 {X : pm_X} {o0 o1 o2 o3 : Option pm_V} {M : pm_M} {st : List pm_V} : pm_Rc X 143 (914, [o0, o1, o2, o3], st, M) = pm_Rc X 143 (915, [o0, o1, o2, o3], pm_i (nI 3) :: st, M) := pm_R_go rfl
set_option maxRecDepth 100000 in
theorem rx_143_915 {X : pm_X} {o0 o1 o2 o3 : Option pm_V} {M : pm_M} {st : List pm_V} {a b : Int32} : pm_Rc X 143 (915, [o0, o1, o2, o3], pm_i b :: pm_i a :: st, M) = pm_Rc X 143 (916, [o0, o1, o2, o3], pm_i (a + b) :: st, M) := pm_R_go rfl
set_option maxRecDepth 100000 in
theorem rx_143_916 {X : pm_X} {o0 o1 o2 o3 : Option pm_V} {M : pm_M} {st : List pm_V} {x : Int32} {z : Nat} : pm_Rc X 143 (916, [o0, o1, o2, o3], pm_i x :: pm_r z :: st, M) = (pm_ald X z x M).bind (fun v => pm_Rc X 143 (917, [o0, o1, o2, o3], pm_i v :: st, M)) := pm_R_ald rfl
set_option maxRecDepth 100000 in
theorem rx_143_917 {X : pm_X} {o0 o1 o2 o3 : Option pm_V} {M : pm_M} {a0 : Int32} {a1 : Int32} {a2 : Int32} {w0 : pm_V} : pm_Rc X 143 (917, [o0, o1, o2, o3], [pm_i a2, pm_i a1, pm_i a0, pm_r 23, w0], M) = (pm_Rc pm_X0 131 (0, [some (pm_r 23), some (pm_i a0), some (pm_i a1), some (pm_i a2)], [], M)).bind (fun r => pm_Rc X 143 (920, [o0, o1, o2, o3], pm_psh r.1 [w0], r.2)) := pm_R_call rfl (Nat.le_of_ble_eq_true rfl) rfl
set_option maxRecDepth 100000 in
theorem rx_143_920 {X : pm_X} {o0 o1 o2 o3 : Option pm_V} {M : pm_M} {st : List pm_V} {a b : Int64} : pm_Rc X 143 (920, [o0, o1, o2, o3], pm_l b :: pm_l a :: st, M) = pm_Rc X 143 (921, [o0, o1, o2, o3], pm_i (lg_cmp a b) :: st, M) := pm_R_go rfl
set_option maxRecDepth 100000 in
theorem rx_143_921 {X : pm_X} {o0 o1 o2 o3 : Option pm_V} {M : pm_M} {st : List pm_V} {a : Int32} : pm_Rc X 143 (921, [o0, o1, o2, o3], pm_i a :: st, M) = if a = 0 then pm_Rc X 143 (1117, [o0, o1, o2, o3], st, M) else pm_Rc X 143 (924, [o0, o1, o2, o3], st, M) := pm_R_ifeq rfl
set_option maxRecDepth 100000 in
theorem rx_143_924 {X : pm_X} {o0 o1 o2 o3 : Option pm_V} {M : pm_M} {st : List pm_V} : pm_Rc X 143 (924, [o0, o1, o2, o3], st, M) = pm_Rc X 143 (925, [o0, o1, o2, o3], pm_i (nI 0) :: st, M) := pm_R_go rfl
set_option maxRecDepth 100000 in
theorem rx_143_925_0 {X : pm_X} {o0 o1 o2 o3 : Option pm_V} {M : pm_M} : pm_Rc X 143 (925, [o0, o1, o2, o3], [pm_i (nI 0)], M) = some (some (pm_i (nI 0)), M) := pm_R_ret rfl
set_option maxRecDepth 100000 in
theorem rx_143_925_1 {X : pm_X} {o0 o1 o2 o3 : Option pm_V} {M : pm_M} : pm_Rc X 143 (925, [o0, o1, o2, o3], [pm_i (nI 1)], M) = some (some (pm_i (nI 1)), M) := pm_R_ret rfl
set_option maxRecDepth 100000 in
theorem rx_143_926 {X : pm_X} {o0 o2 o3 : Option pm_V} {M : pm_M} {st : List pm_V} {x : Nat} : pm_Rc X 143 (926, [o0, some (pm_r x), o2, o3], st, M) = pm_Rc X 143 (927, [o0, some (pm_r x), o2, o3], pm_r x :: st, M) := pm_R_go rfl
set_option maxRecDepth 100000 in
theorem rx_143_927 {X : pm_X} {o1 o2 o3 : Option pm_V} {M : pm_M} {st : List pm_V} {x : Nat} : pm_Rc X 143 (927, [some (pm_r x), o1, o2, o3], st, M) = pm_Rc X 143 (928, [some (pm_r x), o1, o2, o3], pm_r x :: st, M) := pm_R_go rfl
set_option maxRecDepth 100000 in
theorem rx_143_928 {X : pm_X} {o0 o1 o2 : Option pm_V} {M : pm_M} {st : List pm_V} {x : Int32} : pm_Rc X 143 (928, [o0, o1, o2, some (pm_i x)], st, M) = pm_Rc X 143 (929, [o0, o1, o2, some (pm_i x)], pm_i x :: st, M) := pm_R_go rfl
set_option maxRecDepth 100000 in
theorem rx_143_929 {X : pm_X} {o0 o1 o2 o3 : Option pm_V} {M : pm_M} {st : List pm_V} : pm_Rc X 143 (929, [o0, o1, o2, o3], st, M) = pm_Rc X 143 (930, [o0, o1, o2, o3], pm_i (nI 1) :: st, M) := pm_R_go rfl
set_option maxRecDepth 100000 in
theorem rx_143_930 {X : pm_X} {o0 o1 o2 o3 : Option pm_V} {M : pm_M} {st : List pm_V} {a b : Int32} : pm_Rc X 143 (930, [o0, o1, o2, o3], pm_i b :: pm_i a :: st, M) = pm_Rc X 143 (931, [o0, o1, o2, o3], pm_i (a + b) :: st, M) := pm_R_go rfl
set_option maxRecDepth 100000 in
theorem rx_143_931 {X : pm_X} {o0 o1 o2 o3 : Option pm_V} {M : pm_M} {st : List pm_V} {x : Int32} {z : Nat} : pm_Rc X 143 (931, [o0, o1, o2, o3], pm_i x :: pm_r z :: st, M) = (pm_ald X z x M).bind (fun v => pm_Rc X 143 (932, [o0, o1, o2, o3], pm_i v :: st, M)) := pm_R_ald rfl
set_option maxRecDepth 100000 in
theorem rx_143_932 {X : pm_X} {o1 o2 o3 : Option pm_V} {M : pm_M} {st : List pm_V} {x : Nat} : pm_Rc X 143 (932, [some (pm_r x), o1, o2, o3], st, M) = pm_Rc X 143 (933, [some (pm_r x), o1, o2, o3], pm_r x :: st, M) := pm_R_go rfl
set_option maxRecDepth 100000 in
theorem rx_143_933 {X : pm_X} {o0 o1 o2 : Option pm_V} {M : pm_M} {st : List pm_V} {x : Int32} : pm_Rc X 143 (933, [o0, o1, o2, some (pm_i x)], st, M) = pm_Rc X 143 (934, [o0, o1, o2, some (pm_i x)], pm_i x :: st, M) := pm_R_go rfl
set_option maxRecDepth 100000 in
theorem rx_143_934 {X : pm_X} {o0 o1 o2 o3 : Option pm_V} {M : pm_M} {st : List pm_V} : pm_Rc X 143 (934, [o0, o1, o2, o3], st, M) = pm_Rc X 143 (935, [o0, o1, o2, o3], pm_i (nI 2) :: st, M) := pm_R_go rfl
set_option maxRecDepth 100000 in
theorem rx_143_935 {X : pm_X} {o0 o1 o2 o3 : Option pm_V} {M : pm_M} {st : List pm_V} {a b : Int32} : pm_Rc X 143 (935, [o0, o1, o2, o3], pm_i b :: pm_i a :: st, M) = pm_Rc X 143 (936, [o0, o1, o2, o3], pm_i (a + b) :: st, M) := pm_R_go rfl
set_option maxRecDepth 100000 in
theorem rx_143_936 {X : pm_X} {o0 o1 o2 o3 : Option pm_V} {M : pm_M} {st : List pm_V} {x : Int32} {z : Nat} : pm_Rc X 143 (936, [o0, o1, o2, o3], pm_i x :: pm_r z :: st, M) = (pm_ald X z x M).bind (fun v => pm_Rc X 143 (937, [o0, o1, o2, o3], pm_i v :: st, M)) := pm_R_ald rfl
set_option maxRecDepth 100000 in
theorem rx_143_937 {X : pm_X} {o1 o2 o3 : Option pm_V} {M : pm_M} {st : List pm_V} {x : Nat} : pm_Rc X 143 (937, [some (pm_r x), o1, o2, o3], st, M) = pm_Rc X 143 (938, [some (pm_r x), o1, o2, o3], pm_r x :: st, M) := pm_R_go rfl
set_option maxRecDepth 100000 in
theorem rx_143_938 {X : pm_X} {o0 o1 o2 : Option pm_V} {M : pm_M} {st : List pm_V} {x : Int32} : pm_Rc X 143 (938, [o0, o1, o2, some (pm_i x)], st, M) = pm_Rc X 143 (939, [o0, o1, o2, some (pm_i x)], pm_i x :: st, M) := pm_R_go rfl
set_option maxRecDepth 100000 in
theorem rx_143_939 {X : pm_X} {o0 o1 o2 o3 : Option pm_V} {M : pm_M} {st : List pm_V} : pm_Rc X 143 (939, [o0, o1, o2, o3], st, M) = pm_Rc X 143 (940, [o0, o1, o2, o3], pm_i (nI 3) :: st, M) := pm_R_go rfl
set_option maxRecDepth 100000 in
theorem rx_143_940 {X : pm_X} {o0 o1 o2 o3 : Option pm_V} {M : pm_M} {st : List pm_V} {a b : Int32} : pm_Rc X 143 (940, [o0, o1, o2, o3], pm_i b :: pm_i a :: st, M) = pm_Rc X 143 (941, [o0, o1, o2, o3], pm_i (a + b) :: st, M) := pm_R_go rfl
set_option maxRecDepth 100000 in
theorem rx_143_941 {X : pm_X} {o0 o1 o2 o3 : Option pm_V} {M : pm_M} {st : List pm_V} {x : Int32} {z : Nat} : pm_Rc X 143 (941, [o0, o1, o2, o3], pm_i x :: pm_r z :: st, M) = (pm_ald X z x M).bind (fun v => pm_Rc X 143 (942, [o0, o1, o2, o3], pm_i v :: st, M)) := pm_R_ald rfl
set_option maxRecDepth 100000 in
theorem rx_143_942 {X : pm_X} {o1 o2 o3 : Option pm_V} {M : pm_M} {st : List pm_V} {x : Nat} : pm_Rc X 143 (942, [some (pm_r x), o1, o2, o3], st, M) = pm_Rc X 143 (943, [some (pm_r x), o1, o2, o3], pm_r x :: st, M) := pm_R_go rfl
set_option maxRecDepth 100000 in
theorem rx_143_943 {X : pm_X} {o0 o1 o2 : Option pm_V} {M : pm_M} {st : List pm_V} {x : Int32} : pm_Rc X 143 (943, [o0, o1, o2, some (pm_i x)], st, M) = pm_Rc X 143 (944, [o0, o1, o2, some (pm_i x)], pm_i x :: st, M) := pm_R_go rfl
set_option maxRecDepth 100000 in
theorem rx_143_944 {X : pm_X} {o0 o1 o2 o3 : Option pm_V} {M : pm_M} {st : List pm_V} : pm_Rc X 143 (944, [o0, o1, o2, o3], st, M) = pm_Rc X 143 (945, [o0, o1, o2, o3], pm_i (nI 4) :: st, M) := pm_R_go rfl
set_option maxRecDepth 100000 in
theorem rx_143_945 {X : pm_X} {o0 o1 o2 o3 : Option pm_V} {M : pm_M} {st : List pm_V} {a b : Int32} : pm_Rc X 143 (945, [o0, o1, o2, o3], pm_i b :: pm_i a :: st, M) = pm_Rc X 143 (946, [o0, o1, o2, o3], pm_i (a + b) :: st, M) := pm_R_go rfl
set_option maxRecDepth 100000 in
theorem rx_143_946 {X : pm_X} {o0 o1 o2 o3 : Option pm_V} {M : pm_M} {st : List pm_V} {x : Int32} {z : Nat} : pm_Rc X 143 (946, [o0, o1, o2, o3], pm_i x :: pm_r z :: st, M) = (pm_ald X z x M).bind (fun v => pm_Rc X 143 (947, [o0, o1, o2, o3], pm_i v :: st, M)) := pm_R_ald rfl
set_option maxRecDepth 100000 in
theorem rx_143_947 {X : pm_X} {o1 o2 o3 : Option pm_V} {M : pm_M} {st : List pm_V} {x : Nat} : pm_Rc X 143 (947, [some (pm_r x), o1, o2, o3], st, M) = pm_Rc X 143 (948, [some (pm_r x), o1, o2, o3], pm_r x :: st, M) := pm_R_go rfl
set_option maxRecDepth 100000 in
theorem rx_143_948 {X : pm_X} {o0 o1 o2 : Option pm_V} {M : pm_M} {st : List pm_V} {x : Int32} : pm_Rc X 143 (948, [o0, o1, o2, some (pm_i x)], st, M) = pm_Rc X 143 (949, [o0, o1, o2, some (pm_i x)], pm_i x :: st, M) := pm_R_go rfl
set_option maxRecDepth 100000 in
theorem rx_143_949 {X : pm_X} {o0 o1 o2 o3 : Option pm_V} {M : pm_M} {st : List pm_V} : pm_Rc X 143 (949, [o0, o1, o2, o3], st, M) = pm_Rc X 143 (950, [o0, o1, o2, o3], pm_i (nI 5) :: st, M) := pm_R_go rfl
set_option maxRecDepth 100000 in
theorem rx_143_950 {X : pm_X} {o0 o1 o2 o3 : Option pm_V} {M : pm_M} {st : List pm_V} {a b : Int32} : pm_Rc X 143 (950, [o0, o1, o2, o3], pm_i b :: pm_i a :: st, M) = pm_Rc X 143 (951, [o0, o1, o2, o3], pm_i (a + b) :: st, M) := pm_R_go rfl
set_option maxRecDepth 100000 in
theorem rx_143_951 {X : pm_X} {o0 o1 o2 o3 : Option pm_V} {M : pm_M} {st : List pm_V} {x : Int32} {z : Nat} : pm_Rc X 143 (951, [o0, o1, o2, o3], pm_i x :: pm_r z :: st, M) = (pm_ald X z x M).bind (fun v => pm_Rc X 143 (952, [o0, o1, o2, o3], pm_i v :: st, M)) := pm_R_ald rfl
set_option maxRecDepth 100000 in
theorem rx_143_952 {X : pm_X} {o0 o1 o2 o3 : Option pm_V} {M : pm_M} {a0 : Int32} {a1 : Int32} {a2 : Int32} {a3 : Int32} {a4 : Int32} : pm_Rc X 143 (952, [o0, o1, o2, o3], [pm_i a4, pm_i a3, pm_i a2, pm_i a1, pm_i a0, pm_r 0], M) = (pm_Rc pm_X0 68 (0, [some (pm_r 0), some (pm_i a0), some (pm_i a1), some (pm_i a2), some (pm_i a3), some (pm_i a4)], [], M)).bind (fun r => pm_Rc X 143 (955, [o0, o1, o2, o3], pm_psh r.1 [], r.2)) := pm_R_call rfl (Nat.le_of_ble_eq_true rfl) rfl
set_option maxRecDepth 100000 in
theorem rx_143_955 {X : pm_X} {o0 o1 o3 : Option pm_V} {M : pm_M} {st : List pm_V} {x : Nat} : pm_Rc X 143 (955, [o0, o1, some (pm_r x), o3], st, M) = pm_Rc X 143 (956, [o0, o1, some (pm_r x), o3], pm_r x :: st, M) := pm_R_go rfl
set_option maxRecDepth 100000 in
theorem rx_143_956 {X : pm_X} {o1 o2 o3 : Option pm_V} {M : pm_M} {st : List pm_V} {x : Nat} : pm_Rc X 143 (956, [some (pm_r x), o1, o2, o3], st, M) = pm_Rc X 143 (957, [some (pm_r x), o1, o2, o3], pm_r x :: st, M) := pm_R_go rfl
set_option maxRecDepth 100000 in
theorem rx_143_957 {X : pm_X} {o0 o1 o2 : Option pm_V} {M : pm_M} {st : List pm_V} {x : Int32} : pm_Rc X 143 (957, [o0, o1, o2, some (pm_i x)], st, M) = pm_Rc X 143 (958, [o0, o1, o2, some (pm_i x)], pm_i x :: st, M) := pm_R_go rfl
set_option maxRecDepth 100000 in
theorem rx_143_958 {X : pm_X} {o0 o1 o2 o3 : Option pm_V} {M : pm_M} {st : List pm_V} : pm_Rc X 143 (958, [o0, o1, o2, o3], st, M) = pm_Rc X 143 (959, [o0, o1, o2, o3], pm_i (nI 1) :: st, M) := pm_R_go rfl
set_option maxRecDepth 100000 in
theorem rx_143_959 {X : pm_X} {o0 o1 o2 o3 : Option pm_V} {M : pm_M} {st : List pm_V} {a b : Int32} : pm_Rc X 143 (959, [o0, o1, o2, o3], pm_i b :: pm_i a :: st, M) = pm_Rc X 143 (960, [o0, o1, o2, o3], pm_i (a + b) :: st, M) := pm_R_go rfl
set_option maxRecDepth 100000 in
theorem rx_143_960 {X : pm_X} {o0 o1 o2 o3 : Option pm_V} {M : pm_M} {st : List pm_V} {x : Int32} {z : Nat} : pm_Rc X 143 (960, [o0, o1, o2, o3], pm_i x :: pm_r z :: st, M) = (pm_ald X z x M).bind (fun v => pm_Rc X 143 (961, [o0, o1, o2, o3], pm_i v :: st, M)) := pm_R_ald rfl
set_option maxRecDepth 100000 in
theorem rx_143_961 {X : pm_X} {o1 o2 o3 : Option pm_V} {M : pm_M} {st : List pm_V} {x : Nat} : pm_Rc X 143 (961, [some (pm_r x), o1, o2, o3], st, M) = pm_Rc X 143 (962, [some (pm_r x), o1, o2, o3], pm_r x :: st, M) := pm_R_go rfl
set_option maxRecDepth 100000 in
theorem rx_143_962 {X : pm_X} {o0 o1 o2 : Option pm_V} {M : pm_M} {st : List pm_V} {x : Int32} : pm_Rc X 143 (962, [o0, o1, o2, some (pm_i x)], st, M) = pm_Rc X 143 (963, [o0, o1, o2, some (pm_i x)], pm_i x :: st, M) := pm_R_go rfl
set_option maxRecDepth 100000 in
theorem rx_143_963 {X : pm_X} {o0 o1 o2 o3 : Option pm_V} {M : pm_M} {st : List pm_V} : pm_Rc X 143 (963, [o0, o1, o2, o3], st, M) = pm_Rc X 143 (964, [o0, o1, o2, o3], pm_i (nI 2) :: st, M) := pm_R_go rfl
set_option maxRecDepth 100000 in
theorem rx_143_964 {X : pm_X} {o0 o1 o2 o3 : Option pm_V} {M : pm_M} {st : List pm_V} {a b : Int32} : pm_Rc X 143 (964, [o0, o1, o2, o3], pm_i b :: pm_i a :: st, M) = pm_Rc X 143 (965, [o0, o1, o2, o3], pm_i (a + b) :: st, M) := pm_R_go rfl
set_option maxRecDepth 100000 in
theorem rx_143_965 {X : pm_X} {o0 o1 o2 o3 : Option pm_V} {M : pm_M} {st : List pm_V} {x : Int32} {z : Nat} : pm_Rc X 143 (965, [o0, o1, o2, o3], pm_i x :: pm_r z :: st, M) = (pm_ald X z x M).bind (fun v => pm_Rc X 143 (966, [o0, o1, o2, o3], pm_i v :: st, M)) := pm_R_ald rfl
set_option maxRecDepth 100000 in
theorem rx_143_966 {X : pm_X} {o1 o2 o3 : Option pm_V} {M : pm_M} {st : List pm_V} {x : Nat} : pm_Rc X 143 (966, [some (pm_r x), o1, o2, o3], st, M) = pm_Rc X 143 (967, [some (pm_r x), o1, o2, o3], pm_r x :: st, M) := pm_R_go rfl
set_option maxRecDepth 100000 in
theorem rx_143_967 {X : pm_X} {o0 o1 o2 : Option pm_V} {M : pm_M} {st : List pm_V} {x : Int32} : pm_Rc X 143 (967, [o0, o1, o2, some (pm_i x)], st, M) = pm_Rc X 143 (968, [o0, o1, o2, some (pm_i x)], pm_i x :: st, M) := pm_R_go rfl
set_option maxRecDepth 100000 in
theorem rx_143_968 {X : pm_X} {o0 o1 o2 o3 : Option pm_V} {M : pm_M} {st : List pm_V} : pm_Rc X 143 (968, [o0, o1, o2, o3], st, M) = pm_Rc X 143 (969, [o0, o1, o2, o3], pm_i (nI 3) :: st, M) := pm_R_go rfl
set_option maxRecDepth 100000 in
theorem rx_143_969 {X : pm_X} {o0 o1 o2 o3 : Option pm_V} {M : pm_M} {st : List pm_V} {a b : Int32} : pm_Rc X 143 (969, [o0, o1, o2, o3], pm_i b :: pm_i a :: st, M) = pm_Rc X 143 (970, [o0, o1, o2, o3], pm_i (a + b) :: st, M) := pm_R_go rfl
set_option maxRecDepth 100000 in
theorem rx_143_970 {X : pm_X} {o0 o1 o2 o3 : Option pm_V} {M : pm_M} {st : List pm_V} {x : Int32} {z : Nat} : pm_Rc X 143 (970, [o0, o1, o2, o3], pm_i x :: pm_r z :: st, M) = (pm_ald X z x M).bind (fun v => pm_Rc X 143 (971, [o0, o1, o2, o3], pm_i v :: st, M)) := pm_R_ald rfl
set_option maxRecDepth 100000 in
theorem rx_143_971 {X : pm_X} {o1 o2 o3 : Option pm_V} {M : pm_M} {st : List pm_V} {x : Nat} : pm_Rc X 143 (971, [some (pm_r x), o1, o2, o3], st, M) = pm_Rc X 143 (972, [some (pm_r x), o1, o2, o3], pm_r x :: st, M) := pm_R_go rfl
set_option maxRecDepth 100000 in
theorem rx_143_972 {X : pm_X} {o0 o1 o2 : Option pm_V} {M : pm_M} {st : List pm_V} {x : Int32} : pm_Rc X 143 (972, [o0, o1, o2, some (pm_i x)], st, M) = pm_Rc X 143 (973, [o0, o1, o2, some (pm_i x)], pm_i x :: st, M) := pm_R_go rfl
set_option maxRecDepth 100000 in
theorem rx_143_973 {X : pm_X} {o0 o1 o2 o3 : Option pm_V} {M : pm_M} {st : List pm_V} : pm_Rc X 143 (973, [o0, o1, o2, o3], st, M) = pm_Rc X 143 (974, [o0, o1, o2, o3], pm_i (nI 4) :: st, M) := pm_R_go rfl
set_option maxRecDepth 100000 in
theorem rx_143_974 {X : pm_X} {o0 o1 o2 o3 : Option pm_V} {M : pm_M} {st : List pm_V} {a b : Int32} : pm_Rc X 143 (974, [o0, o1, o2, o3], pm_i b :: pm_i a :: st, M) = pm_Rc X 143 (975, [o0, o1, o2, o3], pm_i (a + b) :: st, M) := pm_R_go rfl
set_option maxRecDepth 100000 in
theorem rx_143_975 {X : pm_X} {o0 o1 o2 o3 : Option pm_V} {M : pm_M} {st : List pm_V} {x : Int32} {z : Nat} : pm_Rc X 143 (975, [o0, o1, o2, o3], pm_i x :: pm_r z :: st, M) = (pm_ald X z x M).bind (fun v => pm_Rc X 143 (976, [o0, o1, o2, o3], pm_i v :: st, M)) := pm_R_ald rfl
set_option maxRecDepth 100000 in
theorem rx_143_976 {X : pm_X} {o1 o2 o3 : Option pm_V} {M : pm_M} {st : List pm_V} {x : Nat} : pm_Rc X 143 (976, [some (pm_r x), o1, o2, o3], st, M) = pm_Rc X 143 (977, [some (pm_r x), o1, o2, o3], pm_r x :: st, M) := pm_R_go rfl
set_option maxRecDepth 100000 in
theorem rx_143_977 {X : pm_X} {o0 o1 o2 : Option pm_V} {M : pm_M} {st : List pm_V} {x : Int32} : pm_Rc X 143 (977, [o0, o1, o2, some (pm_i x)], st, M) = pm_Rc X 143 (978, [o0, o1, o2, some (pm_i x)], pm_i x :: st, M) := pm_R_go rfl
set_option maxRecDepth 100000 in
theorem rx_143_978 {X : pm_X} {o0 o1 o2 o3 : Option pm_V} {M : pm_M} {st : List pm_V} : pm_Rc X 143 (978, [o0, o1, o2, o3], st, M) = pm_Rc X 143 (979, [o0, o1, o2, o3], pm_i (nI 5) :: st, M) := pm_R_go rfl
set_option maxRecDepth 100000 in
theorem rx_143_979 {X : pm_X} {o0 o1 o2 o3 : Option pm_V} {M : pm_M} {st : List pm_V} {a b : Int32} : pm_Rc X 143 (979, [o0, o1, o2, o3], pm_i b :: pm_i a :: st, M) = pm_Rc X 143 (980, [o0, o1, o2, o3], pm_i (a + b) :: st, M) := pm_R_go rfl
set_option maxRecDepth 100000 in
theorem rx_143_980 {X : pm_X} {o0 o1 o2 o3 : Option pm_V} {M : pm_M} {st : List pm_V} {x : Int32} {z : Nat} : pm_Rc X 143 (980, [o0, o1, o2, o3], pm_i x :: pm_r z :: st, M) = (pm_ald X z x M).bind (fun v => pm_Rc X 143 (981, [o0, o1, o2, o3], pm_i v :: st, M)) := pm_R_ald rfl
set_option maxRecDepth 100000 in
theorem rx_143_981 {X : pm_X} {o0 o1 o2 o3 : Option pm_V} {M : pm_M} {a0 : Int32} {a1 : Int32} {a2 : Int32} {a3 : Int32} {a4 : Int32} {w0 : pm_V} : pm_Rc X 143 (981, [o0, o1, o2, o3], [pm_i a4, pm_i a3, pm_i a2, pm_i a1, pm_i a0, pm_r 23, w0], M) = (pm_Rc pm_X0 133 (0, [some (pm_r 23), some (pm_i a0), some (pm_i a1), some (pm_i a2), some (pm_i a3), some (pm_i a4), none, none, none, none], [], M)).bind (fun r => pm_Rc X 143 (984, [o0, o1, o2, o3], pm_psh r.1 [w0], r.2)) := pm_R_call rfl (Nat.le_of_ble_eq_true rfl) rfl
set_option maxRecDepth 100000 in
theorem rx_143_984 {X : pm_X} {o0 o1 o2 o3 : Option pm_V} {M : pm_M} {st : List pm_V} {a b : Int32} : pm_Rc X 143 (984, [o0, o1, o2, o3], pm_i b :: pm_i a :: st, M) = if a = b then pm_Rc X 143 (1117, [o0, o1, o2, o3], st, M) else pm_Rc X 143 (987, [o0, o1, o2, o3], st, M) := pm_R_iceq rfl
set_option maxRecDepth 100000 in
theorem rx_143_987 {X : pm_X} {o0 o1 o2 o3 : Option pm_V} {M : pm_M} {st : List pm_V} : pm_Rc X 143 (987, [o0, o1, o2, o3], st, M) = pm_Rc X 143 (988, [o0, o1, o2, o3], pm_i (nI 0) :: st, M) := pm_R_go rfl
set_option maxRecDepth 100000 in
theorem rx_143_988_0 {X : pm_X} {o0 o1 o2 o3 : Option pm_V} {M : pm_M} : pm_Rc X 143 (988, [o0, o1, o2, o3], [pm_i (nI 0)], M) = some (some (pm_i (nI 0)), M) := pm_R_ret rfl
set_option maxRecDepth 100000 in
theorem rx_143_988_1 {X : pm_X} {o0 o1 o2 o3 : Option pm_V} {M : pm_M} : pm_Rc X 143 (988, [o0, o1, o2, o3], [pm_i (nI 1)], M) = some (some (pm_i (nI 1)), M) := pm_R_ret rfl
set_option maxRecDepth 100000 in
theorem rx_143_989 {X : pm_X} {o0 o2 o3 : Option pm_V} {M : pm_M} {st : List pm_V} {x : Nat} : pm_Rc X 143 (989, [o0, some (pm_r x), o2, o3], st, M) = pm_Rc X 143 (990, [o0, some (pm_r x), o2, o3], pm_r x :: st, M) := pm_R_go rfl
set_option maxRecDepth 100000 in
theorem rx_143_990 {X : pm_X} {o1 o2 o3 : Option pm_V} {M : pm_M} {st : List pm_V} {x : Nat} : pm_Rc X 143 (990, [some (pm_r x), o1, o2, o3], st, M) = pm_Rc X 143 (991, [some (pm_r x), o1, o2, o3], pm_r x :: st, M) := pm_R_go rfl
set_option maxRecDepth 100000 in
theorem rx_143_991 {X : pm_X} {o0 o1 o2 : Option pm_V} {M : pm_M} {st : List pm_V} {x : Int32} : pm_Rc X 143 (991, [o0, o1, o2, some (pm_i x)], st, M) = pm_Rc X 143 (992, [o0, o1, o2, some (pm_i x)], pm_i x :: st, M) := pm_R_go rfl
set_option maxRecDepth 100000 in
theorem rx_143_992 {X : pm_X} {o0 o1 o2 o3 : Option pm_V} {M : pm_M} {st : List pm_V} : pm_Rc X 143 (992, [o0, o1, o2, o3], st, M) = pm_Rc X 143 (993, [o0, o1, o2, o3], pm_i (nI 1) :: st, M) := pm_R_go rfl
set_option maxRecDepth 100000 in
theorem rx_143_993 {X : pm_X} {o0 o1 o2 o3 : Option pm_V} {M : pm_M} {st : List pm_V} {a b : Int32} : pm_Rc X 143 (993, [o0, o1, o2, o3], pm_i b :: pm_i a :: st, M) = pm_Rc X 143 (994, [o0, o1, o2, o3], pm_i (a + b) :: st, M) := pm_R_go rfl
set_option maxRecDepth 100000 in
theorem rx_143_994 {X : pm_X} {o0 o1 o2 o3 : Option pm_V} {M : pm_M} {st : List pm_V} {x : Int32} {z : Nat} : pm_Rc X 143 (994, [o0, o1, o2, o3], pm_i x :: pm_r z :: st, M) = (pm_ald X z x M).bind (fun v => pm_Rc X 143 (995, [o0, o1, o2, o3], pm_i v :: st, M)) := pm_R_ald rfl
set_option maxRecDepth 100000 in
theorem rx_143_995 {X : pm_X} {o0 o1 o2 o3 : Option pm_V} {M : pm_M} {a0 : Int32} : pm_Rc X 143 (995, [o0, o1, o2, o3], [pm_i a0, pm_r 0], M) = (pm_Rc pm_X0 69 (0, [some (pm_r 0), some (pm_i a0)], [], M)).bind (fun r => pm_Rc X 143 (998, [o0, o1, o2, o3], pm_psh r.1 [], r.2)) := pm_R_call rfl (Nat.le_of_ble_eq_true rfl) rfl
set_option maxRecDepth 100000 in
theorem rx_143_998 {X : pm_X} {o0 o1 o3 : Option pm_V} {M : pm_M} {st : List pm_V} {x : Nat} : pm_Rc X 143 (998, [o0, o1, some (pm_r x), o3], st, M) = pm_Rc X 143 (999, [o0, o1, some (pm_r x), o3], pm_r x :: st, M) := pm_R_go rfl
set_option maxRecDepth 100000 in
theorem rx_143_999 {X : pm_X} {o1 o2 o3 : Option pm_V} {M : pm_M} {st : List pm_V} {x : Nat} : pm_Rc X 143 (999, [some (pm_r x), o1, o2, o3], st, M) = pm_Rc X 143 (1000, [some (pm_r x), o1, o2, o3], pm_r x :: st, M) := pm_R_go rfl
set_option maxRecDepth 100000 in
theorem rx_143_1000 {X : pm_X} {o0 o1 o2 : Option pm_V} {M : pm_M} {st : List pm_V} {x : Int32} : pm_Rc X 143 (1000, [o0, o1, o2, some (pm_i x)], st, M) = pm_Rc X 143 (1001, [o0, o1, o2, some (pm_i x)], pm_i x :: st, M) := pm_R_go rfl
set_option maxRecDepth 100000 in
theorem rx_143_1001 {X : pm_X} {o0 o1 o2 o3 : Option pm_V} {M : pm_M} {st : List pm_V} : pm_Rc X 143 (1001, [o0, o1, o2, o3], st, M) = pm_Rc X 143 (1002, [o0, o1, o2, o3], pm_i (nI 1) :: st, M) := pm_R_go rfl
set_option maxRecDepth 100000 in
theorem rx_143_1002 {X : pm_X} {o0 o1 o2 o3 : Option pm_V} {M : pm_M} {st : List pm_V} {a b : Int32} : pm_Rc X 143 (1002, [o0, o1, o2, o3], pm_i b :: pm_i a :: st, M) = pm_Rc X 143 (1003, [o0, o1, o2, o3], pm_i (a + b) :: st, M) := pm_R_go rfl
set_option maxRecDepth 100000 in
theorem rx_143_1003 {X : pm_X} {o0 o1 o2 o3 : Option pm_V} {M : pm_M} {st : List pm_V} {x : Int32} {z : Nat} : pm_Rc X 143 (1003, [o0, o1, o2, o3], pm_i x :: pm_r z :: st, M) = (pm_ald X z x M).bind (fun v => pm_Rc X 143 (1004, [o0, o1, o2, o3], pm_i v :: st, M)) := pm_R_ald rfl
set_option maxRecDepth 100000 in
theorem rx_143_1004 {X : pm_X} {o0 o1 o2 o3 : Option pm_V} {M : pm_M} {a0 : Int32} {w0 : pm_V} : pm_Rc X 143 (1004, [o0, o1, o2, o3], [pm_i a0, pm_r 23, w0], M) = (pm_Rc pm_X0 134 (0, [some (pm_r 23), some (pm_i a0), none], [], M)).bind (fun r => pm_Rc X 143 (1007, [o0, o1, o2, o3], pm_psh r.1 [w0], r.2)) := pm_R_call rfl (Nat.le_of_ble_eq_true rfl) rfl
set_option maxRecDepth 100000 in
theorem rx_143_1007 {X : pm_X} {o0 o1 o2 o3 : Option pm_V} {M : pm_M} {st : List pm_V} {a b : Int32} : pm_Rc X 143 (1007, [o0, o1, o2, o3], pm_i b :: pm_i a :: st, M) = if a = b then pm_Rc X 143 (1117, [o0, o1, o2, o3], st, M) else pm_Rc X 143 (1010, [o0, o1, o2, o3], st, M) := pm_R_iceq rfl
set_option maxRecDepth 100000 in
theorem rx_143_1010 {X : pm_X} {o0 o1 o2 o3 : Option pm_V} {M : pm_M} {st : List pm_V} : pm_Rc X 143 (1010, [o0, o1, o2, o3], st, M) = pm_Rc X 143 (1011, [o0, o1, o2, o3], pm_i (nI 0) :: st, M) := pm_R_go rfl
set_option maxRecDepth 100000 in
theorem rx_143_1011_0 {X : pm_X} {o0 o1 o2 o3 : Option pm_V} {M : pm_M} : pm_Rc X 143 (1011, [o0, o1, o2, o3], [pm_i (nI 0)], M) = some (some (pm_i (nI 0)), M) := pm_R_ret rfl
set_option maxRecDepth 100000 in
theorem rx_143_1011_1 {X : pm_X} {o0 o1 o2 o3 : Option pm_V} {M : pm_M} : pm_Rc X 143 (1011, [o0, o1, o2, o3], [pm_i (nI 1)], M) = some (some (pm_i (nI 1)), M) := pm_R_ret rfl
set_option maxRecDepth 100000 in
theorem rx_143_1012 {X : pm_X} {o0 o2 o3 : Option pm_V} {M : pm_M} {st : List pm_V} {x : Nat} : pm_Rc X 143 (1012, [o0, some (pm_r x), o2, o3], st, M) = pm_Rc X 143 (1013, [o0, some (pm_r x), o2, o3], pm_r x :: st, M) := pm_R_go rfl
set_option maxRecDepth 100000 in
theorem rx_143_1013 {X : pm_X} {o1 o2 o3 : Option pm_V} {M : pm_M} {st : List pm_V} {x : Nat} : pm_Rc X 143 (1013, [some (pm_r x), o1, o2, o3], st, M) = pm_Rc X 143 (1014, [some (pm_r x), o1, o2, o3], pm_r x :: st, M) := pm_R_go rfl
set_option maxRecDepth 100000 in
theorem rx_143_1014 {X : pm_X} {o0 o1 o2 : Option pm_V} {M : pm_M} {st : List pm_V} {x : Int32} : pm_Rc X 143 (1014, [o0, o1, o2, some (pm_i x)], st, M) = pm_Rc X 143 (1015, [o0, o1, o2, some (pm_i x)], pm_i x :: st, M) := pm_R_go rfl
set_option maxRecDepth 100000 in
theorem rx_143_1015 {X : pm_X} {o0 o1 o2 o3 : Option pm_V} {M : pm_M} {st : List pm_V} : pm_Rc X 143 (1015, [o0, o1, o2, o3], st, M) = pm_Rc X 143 (1016, [o0, o1, o2, o3], pm_i (nI 1) :: st, M) := pm_R_go rfl
set_option maxRecDepth 100000 in
theorem rx_143_1016 {X : pm_X} {o0 o1 o2 o3 : Option pm_V} {M : pm_M} {st : List pm_V} {a b : Int32} : pm_Rc X 143 (1016, [o0, o1, o2, o3], pm_i b :: pm_i a :: st, M) = pm_Rc X 143 (1017, [o0, o1, o2, o3], pm_i (a + b) :: st, M) := pm_R_go rfl
set_option maxRecDepth 100000 in
theorem rx_143_1017 {X : pm_X} {o0 o1 o2 o3 : Option pm_V} {M : pm_M} {st : List pm_V} {x : Int32} {z : Nat} : pm_Rc X 143 (1017, [o0, o1, o2, o3], pm_i x :: pm_r z :: st, M) = (pm_ald X z x M).bind (fun v => pm_Rc X 143 (1018, [o0, o1, o2, o3], pm_i v :: st, M)) := pm_R_ald rfl
set_option maxRecDepth 100000 in
theorem rx_143_1018 {X : pm_X} {o0 o1 o2 o3 : Option pm_V} {M : pm_M} {a0 : Int32} : pm_Rc X 143 (1018, [o0, o1, o2, o3], [pm_i a0, pm_r 0], M) = (pm_Rc pm_X0 74 (0, [some (pm_r 0), some (pm_i a0)], [], M)).bind (fun r => pm_Rc X 143 (1021, [o0, o1, o2, o3], pm_psh r.1 [], r.2)) := pm_R_call rfl (Nat.le_of_ble_eq_true rfl) rfl
set_option maxRecDepth 100000 in
theorem rx_143_1021 {X : pm_X} {o0 o1 o3 : Option pm_V} {M : pm_M} {st : List pm_V} {x : Nat} : pm_Rc X 143 (1021, [o0, o1, some (pm_r x), o3], st, M) = pm_Rc X 143 (1022, [o0, o1, some (pm_r x), o3], pm_r x :: st, M) := pm_R_go rfl
set_option maxRecDepth 100000 in
theorem rx_143_1022 {X : pm_X} {o1 o2 o3 : Option pm_V} {M : pm_M} {st : List pm_V} {x : Nat} : pm_Rc X 143 (1022, [some (pm_r x), o1, o2, o3], st, M) = pm_Rc X 143 (1023, [some (pm_r x), o1, o2, o3], pm_r x :: st, M) := pm_R_go rfl
set_option maxRecDepth 100000 in
theorem rx_143_1023 {X : pm_X} {o0 o1 o2 : Option pm_V} {M : pm_M} {st : List pm_V} {x : Int32} : pm_Rc X 143 (1023, [o0, o1, o2, some (pm_i x)], st, M) = pm_Rc X 143 (1024, [o0, o1, o2, some (pm_i x)], pm_i x :: st, M) := pm_R_go rfl
set_option maxRecDepth 100000 in
theorem rx_143_1024 {X : pm_X} {o0 o1 o2 o3 : Option pm_V} {M : pm_M} {st : List pm_V} : pm_Rc X 143 (1024, [o0, o1, o2, o3], st, M) = pm_Rc X 143 (1025, [o0, o1, o2, o3], pm_i (nI 1) :: st, M) := pm_R_go rfl
set_option maxRecDepth 100000 in
theorem rx_143_1025 {X : pm_X} {o0 o1 o2 o3 : Option pm_V} {M : pm_M} {st : List pm_V} {a b : Int32} : pm_Rc X 143 (1025, [o0, o1, o2, o3], pm_i b :: pm_i a :: st, M) = pm_Rc X 143 (1026, [o0, o1, o2, o3], pm_i (a + b) :: st, M) := pm_R_go rfl
set_option maxRecDepth 100000 in
theorem rx_143_1026 {X : pm_X} {o0 o1 o2 o3 : Option pm_V} {M : pm_M} {st : List pm_V} {x : Int32} {z : Nat} : pm_Rc X 143 (1026, [o0, o1, o2, o3], pm_i x :: pm_r z :: st, M) = (pm_ald X z x M).bind (fun v => pm_Rc X 143 (1027, [o0, o1, o2, o3], pm_i v :: st, M)) := pm_R_ald rfl
set_option maxRecDepth 100000 in
theorem rx_143_1027 {X : pm_X} {o0 o1 o2 o3 : Option pm_V} {M : pm_M} {a0 : Int32} {w0 : pm_V} : pm_Rc X 143 (1027, [o0, o1, o2, o3], [pm_i a0, pm_r 23, w0], M) = (pm_Rc pm_X0 136 (0, [some (pm_r 23), some (pm_i a0)], [], M)).bind (fun r => pm_Rc X 143 (1030, [o0, o1, o2, o3], pm_psh r.1 [w0], r.2)) := pm_R_call rfl (Nat.le_of_ble_eq_true rfl) rfl
set_option maxRecDepth 100000 in
theorem rx_143_1030 {X : pm_X} {o0 o1 o2 o3 : Option pm_V} {M : pm_M} {st : List pm_V} {a b : Int32} : pm_Rc X 143 (1030, [o0, o1, o2, o3], pm_i b :: pm_i a :: st, M) = if a = b then pm_Rc X 143 (1117, [o0, o1, o2, o3], st, M) else pm_Rc X 143 (1033, [o0, o1, o2, o3], st, M) := pm_R_iceq rfl
set_option maxRecDepth 100000 in
theorem rx_143_1033 {X : pm_X} {o0 o1 o2 o3 : Option pm_V} {M : pm_M} {st : List pm_V} : pm_Rc X 143 (1033, [o0, o1, o2, o3], st, M) = pm_Rc X 143 (1034, [o0, o1, o2, o3], pm_i (nI 0) :: st, M) := pm_R_go rfl
set_option maxRecDepth 100000 in
theorem rx_143_1034_0 {X : pm_X} {o0 o1 o2 o3 : Option pm_V} {M : pm_M} : pm_Rc X 143 (1034, [o0, o1, o2, o3], [pm_i (nI 0)], M) = some (some (pm_i (nI 0)), M) := pm_R_ret rfl
set_option maxRecDepth 100000 in
theorem rx_143_1034_1 {X : pm_X} {o0 o1 o2 o3 : Option pm_V} {M : pm_M} : pm_Rc X 143 (1034, [o0, o1, o2, o3], [pm_i (nI 1)], M) = some (some (pm_i (nI 1)), M) := pm_R_ret rfl
set_option maxRecDepth 100000 in
theorem rx_143_1035 {X : pm_X} {o0 o2 o3 : Option pm_V} {M : pm_M} {st : List pm_V} {x : Nat} : pm_Rc X 143 (1035, [o0, some (pm_r x), o2, o3], st, M) = pm_Rc X 143 (1036, [o0, some (pm_r x), o2, o3], pm_r x :: st, M) := pm_R_go rfl
set_option maxRecDepth 100000 in
theorem rx_143_1036 {X : pm_X} {o1 o2 o3 : Option pm_V} {M : pm_M} {st : List pm_V} {x : Nat} : pm_Rc X 143 (1036, [some (pm_r x), o1, o2, o3], st, M) = pm_Rc X 143 (1037, [some (pm_r x), o1, o2, o3], pm_r x :: st, M) := pm_R_go rfl
set_option maxRecDepth 100000 in
theorem rx_143_1037 {X : pm_X} {o0 o1 o2 : Option pm_V} {M : pm_M} {st : List pm_V} {x : Int32} : pm_Rc X 143 (1037, [o0, o1, o2, some (pm_i x)], st, M) = pm_Rc X 143 (1038, [o0, o1, o2, some (pm_i x)], pm_i x :: st, M) := pm_R_go rfl
set_option maxRecDepth 100000 in
theorem rx_143_1038 {X : pm_X} {o0 o1 o2 o3 : Option pm_V} {M : pm_M} {st : List pm_V} : pm_Rc X 143 (1038, [o0, o1, o2, o3], st, M) = pm_Rc X 143 (1039, [o0, o1, o2, o3], pm_i (nI 1) :: st, M) := pm_R_go rfl
set_option maxRecDepth 100000 in
theorem rx_143_1039 {X : pm_X} {o0 o1 o2 o3 : Option pm_V} {M : pm_M} {st : List pm_V} {a b : Int32} : pm_Rc X 143 (1039, [o0, o1, o2, o3], pm_i b :: pm_i a :: st, M) = pm_Rc X 143 (1040, [o0, o1, o2, o3], pm_i (a + b) :: st, M) := pm_R_go rfl
set_option maxRecDepth 100000 in
theorem rx_143_1040 {X : pm_X} {o0 o1 o2 o3 : Option pm_V} {M : pm_M} {st : List pm_V} {x : Int32} {z : Nat} : pm_Rc X 143 (1040, [o0, o1, o2, o3], pm_i x :: pm_r z :: st, M) = (pm_ald X z x M).bind (fun v => pm_Rc X 143 (1041, [o0, o1, o2, o3], pm_i v :: st, M)) := pm_R_ald rfl
set_option maxRecDepth 100000 in
theorem rx_143_1041 {X : pm_X} {o1 o2 o3 : Option pm_V} {M : pm_M} {st : List pm_V} {x : Nat} : pm_Rc X 143 (1041, [some (pm_r x), o1, o2, o3], st, M) = pm_Rc X 143 (1042, [some (pm_r x), o1, o2, o3], pm_r x :: st, M) := pm_R_go rfl
set_option maxRecDepth 100000 in
theorem rx_143_1042 {X : pm_X} {o0 o1 o2 : Option pm_V} {M : pm_M} {st : List pm_V} {x : Int32} : pm_Rc X 143 (1042, [o0, o1, o2, some (pm_i x)], st, M) = pm_Rc X 143 (1043, [o0, o1, o2, some (pm_i x)], pm_i x :: st, M) := pm_R_go rfl
set_option maxRecDepth 100000 in
theorem rx_143_1043 {X : pm_X} {o0 o1 o2 o3 : Option pm_V} {M : pm_M} {st : List pm_V} : pm_Rc X 143 (1043, [o0, o1, o2, o3], st, M) = pm_Rc X 143 (1044, [o0, o1, o2, o3], pm_i (nI 2) :: st, M) := pm_R_go rfl
set_option maxRecDepth 100000 in
theorem rx_143_1044 {X : pm_X} {o0 o1 o2 o3 : Option pm_V} {M : pm_M} {st : List pm_V} {a b : Int32} : pm_Rc X 143 (1044, [o0, o1, o2, o3], pm_i b :: pm_i a :: st, M) = pm_Rc X 143 (1045, [o0, o1, o2, o3], pm_i (a + b) :: st, M) := pm_R_go rfl
set_option maxRecDepth 100000 in
theorem rx_143_1045 {X : pm_X} {o0 o1 o2 o3 : Option pm_V} {M : pm_M} {st : List pm_V} {x : Int32} {z : Nat} : pm_Rc X 143 (1045, [o0, o1, o2, o3], pm_i x :: pm_r z :: st, M) = (pm_ald X z x M).bind (fun v => pm_Rc X 143 (1046, [o0, o1, o2, o3], pm_i v :: st, M)) := pm_R_ald rfl
set_option maxRecDepth 100000 in
theorem rx_143_1046 {X : pm_X} {o0 o1 o2 o3 : Option pm_V} {M : pm_M} {a0 : Int32} {a1 : Int32} : pm_Rc X 143 (1046, [o0, o1, o2, o3], [pm_i a1, pm_i a0, pm_r 0], M) = (pm_Rc pm_X0 75 (0, [some (pm_r 0), some (pm_i a0), some (pm_i a1)], [], M)).bind (fun r => pm_Rc X 143 (1049, [o0, o1, o2, o3], pm_psh r.1 [], r.2)) := pm_R_call rfl (Nat.le_of_ble_eq_true rfl) rfl
set_option maxRecDepth 100000 in
theorem rx_143_1049 {X : pm_X} {o0 o1 o3 : Option pm_V} {M : pm_M} {st : List pm_V} {x : Nat} : pm_Rc X 143 (1049, [o0, o1, some (pm_r x), o3], st, M) = pm_Rc X 143 (1050, [o0, o1, some (pm_r x), o3], pm_r x :: st, M) := pm_R_go rfl
set_option maxRecDepth 100000 in
theorem rx_143_1050 {X : pm_X} {o1 o2 o3 : Option pm_V} {M : pm_M} {st : List pm_V} {x : Nat} : pm_Rc X 143 (1050, [some (pm_r x), o1, o2, o3], st, M) = pm_Rc X 143 (1051, [some (pm_r x), o1, o2, o3], pm_r x :: st, M) := pm_R_go rfl
set_option maxRecDepth 100000 in
theorem rx_143_1051 {X : pm_X} {o0 o1 o2 : Option pm_V} {M : pm_M} {st : List pm_V} {x : Int32} : pm_Rc X 143 (1051, [o0, o1, o2, some (pm_i x)], st, M) = pm_Rc X 143 (1052, [o0, o1, o2, some (pm_i x)], pm_i x :: st, M) := pm_R_go rfl
set_option maxRecDepth 100000 in
theorem rx_143_1052 {X : pm_X} {o0 o1 o2 o3 : Option pm_V} {M : pm_M} {st : List pm_V} : pm_Rc X 143 (1052, [o0, o1, o2, o3], st, M) = pm_Rc X 143 (1053, [o0, o1, o2, o3], pm_i (nI 1) :: st, M) := pm_R_go rfl
set_option maxRecDepth 100000 in
theorem rx_143_1053 {X : pm_X} {o0 o1 o2 o3 : Option pm_V} {M : pm_M} {st : List pm_V} {a b : Int32} : pm_Rc X 143 (1053, [o0, o1, o2, o3], pm_i b :: pm_i a :: st, M) = pm_Rc X 143 (1054, [o0, o1, o2, o3], pm_i (a + b) :: st, M) := pm_R_go rfl
set_option maxRecDepth 100000 in
theorem rx_143_1054 {X : pm_X} {o0 o1 o2 o3 : Option pm_V} {M : pm_M} {st : List pm_V} {x : Int32} {z : Nat} : pm_Rc X 143 (1054, [o0, o1, o2, o3], pm_i x :: pm_r z :: st, M) = (pm_ald X z x M).bind (fun v => pm_Rc X 143 (1055, [o0, o1, o2, o3], pm_i v :: st, M)) := pm_R_ald rfl
set_option maxRecDepth 100000 in
theorem rx_143_1055 {X : pm_X} {o1 o2 o3 : Option pm_V} {M : pm_M} {st : List pm_V} {x : Nat} : pm_Rc X 143 (1055, [some (pm_r x), o1, o2, o3], st, M) = pm_Rc X 143 (1056, [some (pm_r x), o1, o2, o3], pm_r x :: st, M) := pm_R_go rfl
set_option maxRecDepth 100000 in
theorem rx_143_1056 {X : pm_X} {o0 o1 o2 : Option pm_V} {M : pm_M} {st : List pm_V} {x : Int32} : pm_Rc X 143 (1056, [o0, o1, o2, some (pm_i x)], st, M) = pm_Rc X 143 (1057, [o0, o1, o2, some (pm_i x)], pm_i x :: st, M) := pm_R_go rfl
set_option maxRecDepth 100000 in
theorem rx_143_1057 {X : pm_X} {o0 o1 o2 o3 : Option pm_V} {M : pm_M} {st : List pm_V} : pm_Rc X 143 (1057, [o0, o1, o2, o3], st, M) = pm_Rc X 143 (1058, [o0, o1, o2, o3], pm_i (nI 2) :: st, M) := pm_R_go rfl
set_option maxRecDepth 100000 in
theorem rx_143_1058 {X : pm_X} {o0 o1 o2 o3 : Option pm_V} {M : pm_M} {st : List pm_V} {a b : Int32} : pm_Rc X 143 (1058, [o0, o1, o2, o3], pm_i b :: pm_i a :: st, M) = pm_Rc X 143 (1059, [o0, o1, o2, o3], pm_i (a + b) :: st, M) := pm_R_go rfl
set_option maxRecDepth 100000 in
theorem rx_143_1059 {X : pm_X} {o0 o1 o2 o3 : Option pm_V} {M : pm_M} {st : List pm_V} {x : Int32} {z : Nat} : pm_Rc X 143 (1059, [o0, o1, o2, o3], pm_i x :: pm_r z :: st, M) = (pm_ald X z x M).bind (fun v => pm_Rc X 143 (1060, [o0, o1, o2, o3], pm_i v :: st, M)) := pm_R_ald rfl
set_option maxRecDepth 100000 in
theorem rx_143_1060 {X : pm_X} {o0 o1 o2 o3 : Option pm_V} {M : pm_M} {a0 : Int32} {a1 : Int32} {w0 : pm_V} : pm_Rc X 143 (1060, [o0, o1, o2, o3], [pm_i a1, pm_i a0, pm_r 23, w0], M) = (pm_Rc pm_X0 137 (0, [some (pm_r 23), some (pm_i a0), some (pm_i a1)], [], M)).bind (fun r => pm_Rc X 143 (1063, [o0, o1, o2, o3], pm_psh r.1 [w0], r.2)) := pm_R_call rfl (Nat.le_of_ble_eq_true rfl) rfl
set_option maxRecDepth 100000 in
theorem rx_143_1063 {X : pm_X} {o0 o1 o2 o3 : Option pm_V} {M : pm_M} {st : List pm_V} {a b : Int32} : pm_Rc X 143 (1063, [o0, o1, o2, o3], pm_i b :: pm_i a :: st, M) = if a = b then pm_Rc X 143 (1117, [o0, o1, o2, o3], st, M) else pm_Rc X 143 (1066, [o0, o1, o2, o3], st, M) := pm_R_iceq rfl
set_option maxRecDepth 100000 in
theorem rx_143_1066 {X : pm_X} {o0 o1 o2 o3 : Option pm_V} {M : pm_M} {st : List pm_V} : pm_Rc X 143 (1066, [o0, o1, o2, o3], st, M) = pm_Rc X 143 (1067, [o0, o1, o2, o3], pm_i (nI 0) :: st, M) := pm_R_go rfl
set_option maxRecDepth 100000 in
theorem rx_143_1067_0 {X : pm_X} {o0 o1 o2 o3 : Option pm_V} {M : pm_M} : pm_Rc X 143 (1067, [o0, o1, o2, o3], [pm_i (nI 0)], M) = some (some (pm_i (nI 0)), M) := pm_R_ret rfl
set_option maxRecDepth 100000 in
theorem rx_143_1067_1 {X : pm_X} {o0 o1 o2 o3 : Option pm_V} {M : pm_M} : pm_Rc X 143 (1067, [o0, o1, o2, o3], [pm_i (nI 1)], M) = some (some (pm_i (nI 1)), M) := pm_R_ret rfl
set_option maxRecDepth 100000 in
theorem rx_143_1068 {X : pm_X} {o0 o2 o3 : Option pm_V} {M : pm_M} {st : List pm_V} {x : Nat} : pm_Rc X 143 (1068, [o0, some (pm_r x), o2, o3], st, M) = pm_Rc X 143 (1069, [o0, some (pm_r x), o2, o3], pm_r x :: st, M) := pm_R_go rfl
set_option maxRecDepth 100000 in
theorem rx_143_1069 {X : pm_X} {o0 o1 o2 o3 : Option pm_V} {M : pm_M} : pm_Rc X 143 (1069, [o0, o1, o2, o3], [pm_r 0], M) = (pm_Rc pm_X0 76 (0, [some (pm_r 0)], [], M)).bind (fun r => pm_Rc X 143 (1072, [o0, o1, o2, o3], pm_psh r.1 [], r.2)) := pm_R_call rfl (Nat.le_of_ble_eq_true rfl) rfl
set_option maxRecDepth 100000 in
theorem rx_143_1072 {X : pm_X} {o0 o1 o3 : Option pm_V} {M : pm_M} {st : List pm_V} {x : Nat} : pm_Rc X 143 (1072, [o0, o1, some (pm_r x), o3], st, M) = pm_Rc X 143 (1073, [o0, o1, some (pm_r x), o3], pm_r x :: st, M) := pm_R_go rfl
set_option maxRecDepth 100000 in
theorem rx_143_1073 {X : pm_X} {o0 o1 o2 o3 : Option pm_V} {M : pm_M} {w0 : pm_V} : pm_Rc X 143 (1073, [o0, o1, o2, o3], [pm_r 23, w0], M) = (pm_Rc pm_X0 138 (0, [some (pm_r 23)], [], M)).bind (fun r => pm_Rc X 143 (1076, [o0, o1, o2, o3], pm_psh r.1 [w0], r.2)) := pm_R_call rfl (Nat.le_of_ble_eq_true rfl) rfl
set_option maxRecDepth 100000 in
theorem rx_143_1076 {X : pm_X} {o0 o1 o2 o3 : Option pm_V} {M : pm_M} {st : List pm_V} {a b : Int32} : pm_Rc X 143 (1076, [o0, o1, o2, o3], pm_i b :: pm_i a :: st, M) = if a = b then pm_Rc X 143 (1117, [o0, o1, o2, o3], st, M) else pm_Rc X 143 (1079, [o0, o1, o2, o3], st, M) := pm_R_iceq rfl
set_option maxRecDepth 100000 in
theorem rx_143_1079 {X : pm_X} {o0 o1 o2 o3 : Option pm_V} {M : pm_M} {st : List pm_V} : pm_Rc X 143 (1079, [o0, o1, o2, o3], st, M) = pm_Rc X 143 (1080, [o0, o1, o2, o3], pm_i (nI 0) :: st, M) := pm_R_go rfl
set_option maxRecDepth 100000 in
theorem rx_143_1080_0 {X : pm_X} {o0 o1 o2 o3 : Option pm_V} {M : pm_M} : pm_Rc X 143 (1080, [o0, o1, o2, o3], [pm_i (nI 0)], M) = some (some (pm_i (nI 0)), M) := pm_R_ret rfl
set_option maxRecDepth 100000 in
theorem rx_143_1080_1 {X : pm_X} {o0 o1 o2 o3 : Option pm_V} {M : pm_M} : pm_Rc X 143 (1080, [o0, o1, o2, o3], [pm_i (nI 1)], M) = some (some (pm_i (nI 1)), M) := pm_R_ret rfl
set_option maxRecDepth 100000 in
theorem rx_143_1081 {X : pm_X} {o0 o2 o3 : Option pm_V} {M : pm_M} {st : List pm_V} {x : Nat} : pm_Rc X 143 (1081, [o0, some (pm_r x), o2, o3], st, M) = pm_Rc X 143 (1082, [o0, some (pm_r x), o2, o3], pm_r x :: st, M) := pm_R_go rfl
set_option maxRecDepth 100000 in
theorem rx_143_1082 {X : pm_X} {o0 o1 o2 o3 : Option pm_V} {M : pm_M} : pm_Rc X 143 (1082, [o0, o1, o2, o3], [pm_r 0], M) = (pm_Rc pm_X0 77 (0, [some (pm_r 0)], [], M)).bind (fun r => pm_Rc X 143 (1085, [o0, o1, o2, o3], pm_psh r.1 [], r.2)) := pm_R_call rfl (Nat.le_of_ble_eq_true rfl) rfl
set_option maxRecDepth 100000 in
theorem rx_143_1085 {X : pm_X} {o0 o1 o3 : Option pm_V} {M : pm_M} {st : List pm_V} {x : Nat} : pm_Rc X 143 (1085, [o0, o1, some (pm_r x), o3], st, M) = pm_Rc X 143 (1086, [o0, o1, some (pm_r x), o3], pm_r x :: st, M) := pm_R_go rfl
set_option maxRecDepth 100000 in
theorem rx_143_1086 {X : pm_X} {o0 o1 o2 o3 : Option pm_V} {M : pm_M} {w0 : pm_V} : pm_Rc X 143 (1086, [o0, o1, o2, o3], [pm_r 23, w0], M) = (pm_Rc pm_X0 139 (0, [some (pm_r 23)], [], M)).bind (fun r => pm_Rc X 143 (1089, [o0, o1, o2, o3], pm_psh r.1 [w0], r.2)) := pm_R_call rfl (Nat.le_of_ble_eq_true rfl) rfl
set_option maxRecDepth 100000 in
theorem rx_143_1089 {X : pm_X} {o0 o1 o2 o3 : Option pm_V} {M : pm_M} {st : List pm_V} {a b : Int32} : pm_Rc X 143 (1089, [o0, o1, o2, o3], pm_i b :: pm_i a :: st, M) = if a = b then pm_Rc X 143 (1117, [o0, o1, o2, o3], st, M) else pm_Rc X 143 (1092, [o0, o1, o2, o3], st, M) := pm_R_iceq rfl
set_option maxRecDepth 100000 in
theorem rx_143_1092 {X : pm_X} {o0 o1 o2 o3 : Option pm_V} {M : pm_M} {st : List pm_V} : pm_Rc X 143 (1092, [o0, o1, o2, o3], st, M) = pm_Rc X 143 (1093, [o0, o1, o2, o3], pm_i (nI 0) :: st, M) := pm_R_go rfl
set_option maxRecDepth 100000 in
theorem rx_143_1093_0 {X : pm_X} {o0 o1 o2 o3 : Option pm_V} {M : pm_M} : pm_Rc X 143 (1093, [o0, o1, o2, o3], [pm_i (nI 0)], M) = some (some (pm_i (nI 0)), M) := pm_R_ret rfl
set_option maxRecDepth 100000 in
theorem rx_143_1093_1 {X : pm_X} {o0 o1 o2 o3 : Option pm_V} {M : pm_M} : pm_Rc X 143 (1093, [o0, o1, o2, o3], [pm_i (nI 1)], M) = some (some (pm_i (nI 1)), M) := pm_R_ret rfl
set_option maxRecDepth 100000 in
theorem rx_143_1094 {X : pm_X} {o0 o2 o3 : Option pm_V} {M : pm_M} {st : List pm_V} {x : Nat} : pm_Rc X 143 (1094, [o0, some (pm_r x), o2, o3], st, M) = pm_Rc X 143 (1095, [o0, some (pm_r x), o2, o3], pm_r x :: st, M) := pm_R_go rfl
set_option maxRecDepth 100000 in
theorem rx_143_1095 {X : pm_X} {o1 o2 o3 : Option pm_V} {M : pm_M} {st : List pm_V} {x : Nat} : pm_Rc X 143 (1095, [some (pm_r x), o1, o2, o3], st, M) = pm_Rc X 143 (1096, [some (pm_r x), o1, o2, o3], pm_r x :: st, M) := pm_R_go rfl
set_option maxRecDepth 100000 in
theorem rx_143_1096 {X : pm_X} {o0 o1 o2 : Option pm_V} {M : pm_M} {st : List pm_V} {x : Int32} : pm_Rc X 143 (1096, [o0, o1, o2, some (pm_i x)], st, M) = pm_Rc X 143 (1097, [o0, o1, o2, some (pm_i x)], pm_i x :: st, M) := pm_R_go rfl
set_option maxRecDepth 100000 in
theorem rx_143_1097 {X : pm_X} {o0 o1 o2 o3 : Option pm_V} {M : pm_M} {st : List pm_V} : pm_Rc X 143 (1097, [o0, o1, o2, o3], st, M) = pm_Rc X 143 (1098, [o0, o1, o2, o3], pm_i (nI 1) :: st, M) := pm_R_go rfl
set_option maxRecDepth 100000 in
theorem rx_143_1098 {X : pm_X} {o0 o1 o2 o3 : Option pm_V} {M : pm_M} {st : List pm_V} {a b : Int32} : pm_Rc X 143 (1098, [o0, o1, o2, o3], pm_i b :: pm_i a :: st, M) = pm_Rc X 143 (1099, [o0, o1, o2, o3], pm_i (a + b) :: st, M) := pm_R_go rfl
set_option maxRecDepth 100000 in
theorem rx_143_1099 {X : pm_X} {o0 o1 o2 o3 : Option pm_V} {M : pm_M} {st : List pm_V} {x : Int32} {z : Nat} : pm_Rc X 143 (1099, [o0, o1, o2, o3], pm_i x :: pm_r z :: st, M) = (pm_ald X z x M).bind (fun v => pm_Rc X 143 (1100, [o0, o1, o2, o3], pm_i v :: st, M)) := pm_R_ald rfl
set_option maxRecDepth 100000 in
theorem rx_143_1100 {X : pm_X} {o0 o1 o2 o3 : Option pm_V} {M : pm_M} {a0 : Int32} : pm_Rc X 143 (1100, [o0, o1, o2, o3], [pm_i a0, pm_r 0], M) = (pm_Rc pm_X0 78 (0, [some (pm_r 0), some (pm_i a0)], [], M)).bind (fun r => pm_Rc X 143 (1103, [o0, o1, o2, o3], pm_psh r.1 [], r.2)) := pm_R_call rfl (Nat.le_of_ble_eq_true rfl) rfl
set_option maxRecDepth 100000 in
theorem rx_143_1103 {X : pm_X} {o0 o1 o3 : Option pm_V} {M : pm_M} {st : List pm_V} {x : Nat} : pm_Rc X 143 (1103, [o0, o1, some (pm_r x), o3], st, M) = pm_Rc X 143 (1104, [o0, o1, some (pm_r x), o3], pm_r x :: st, M) := pm_R_go rfl
set_option maxRecDepth 100000 in
theorem rx_143_1104 {X : pm_X} {o1 o2 o3 : Option pm_V} {M : pm_M} {st : List pm_V} {x : Nat} : pm_Rc X 143 (1104, [some (pm_r x), o1, o2, o3], st, M) = pm_Rc X 143 (1105, [some (pm_r x), o1, o2, o3], pm_r x :: st, M) := pm_R_go rfl
set_option maxRecDepth 100000 in
theorem rx_143_1105 {X : pm_X} {o0 o1 o2 : Option pm_V} {M : pm_M} {st : List pm_V} {x : Int32} : pm_Rc X 143 (1105, [o0, o1, o2, some (pm_i x)], st, M) = pm_Rc X 143 (1106, [o0, o1, o2, some (pm_i x)], pm_i x :: st, M) := pm_R_go rfl
set_option maxRecDepth 100000 in
theorem rx_143_1106 {X : pm_X} {o0 o1 o2 o3 : Option pm_V} {M : pm_M} {st : List pm_V} : pm_Rc X 143 (1106, [o0, o1, o2, o3], st, M) = pm_Rc X 143 (1107, [o0, o1, o2, o3], pm_i (nI 1) :: st, M) := pm_R_go rfl
set_option maxRecDepth 100000 in
theorem rx_143_1107 {X : pm_X} {o0 o1 o2 o3 : Option pm_V} {M : pm_M} {st : List pm_V} {a b : Int32} : pm_Rc X 143 (1107, [o0, o1, o2, o3], pm_i b :: pm_i a :: st, M) = pm_Rc X 143 (1108, [o0, o1, o2, o3], pm_i (a + b) :: st, M) := pm_R_go rfl
set_option maxRecDepth 100000 in
theorem rx_143_1108 {X : pm_X} {o0 o1 o2 o3 : Option pm_V} {M : pm_M} {st : List pm_V} {x : Int32} {z : Nat} : pm_Rc X 143 (1108, [o0, o1, o2, o3], pm_i x :: pm_r z :: st, M) = (pm_ald X z x M).bind (fun v => pm_Rc X 143 (1109, [o0, o1, o2, o3], pm_i v :: st, M)) := pm_R_ald rfl
set_option maxRecDepth 100000 in
theorem rx_143_1109 {X : pm_X} {o0 o1 o2 o3 : Option pm_V} {M : pm_M} {a0 : Int32} {w0 : pm_V} : pm_Rc X 143 (1109, [o0, o1, o2, o3], [pm_i a0, pm_r 23, w0], M) = (pm_Rc pm_X0 140 (0, [some (pm_r 23), some (pm_i a0)], [], M)).bind (fun r => pm_Rc X 143 (1112, [o0, o1, o2, o3], pm_psh r.1 [w0], r.2)) := pm_R_call rfl (Nat.le_of_ble_eq_true rfl) rfl
set_option maxRecDepth 100000 in
theorem rx_143_1112 {X : pm_X} {o0 o1 o2 o3 : Option pm_V} {M : pm_M} {st : List pm_V} {a b : Int32} : pm_Rc X 143 (1112, [o0, o1, o2, o3], pm_i b :: pm_i a :: st, M) = if a = b then pm_Rc X 143 (1117, [o0, o1, o2, o3], st, M) else pm_Rc X 143 (1115, [o0, o1, o2, o3], st, M) := pm_R_iceq rfl
set_option maxRecDepth 100000 in
theorem rx_143_1115 {X : pm_X} {o0 o1 o2 o3 : Option pm_V} {M : pm_M} {st : List pm_V} : pm_Rc X 143 (1115, [o0, o1, o2, o3], st, M) = pm_Rc X 143 (1116, [o0, o1, o2, o3], pm_i (nI 0) :: st, M) := pm_R_go rfl
set_option maxRecDepth 100000 in
theorem rx_143_1116_0 {X : pm_X} {o0 o1 o2 o3 : Option pm_V} {M : pm_M} : pm_Rc X 143 (1116, [o0, o1, o2, o3], [pm_i (nI 0)], M) = some (some (pm_i (nI 0)), M) := pm_R_ret rfl
set_option maxRecDepth 100000 in
theorem rx_143_1116_1 {X : pm_X} {o0 o1 o2 o3 : Option pm_V} {M : pm_M} : pm_Rc X 143 (1116, [o0, o1, o2, o3], [pm_i (nI 1)], M) = some (some (pm_i (nI 1)), M) := pm_R_ret rfl
set_option maxRecDepth 100000 in
theorem rx_143_1117 {X : pm_X} {o0 o1 o2 : Option pm_V} {M : pm_M} {st : List pm_V} {x : Int32} : pm_Rc X 143 (1117, [o0, o1, o2, some (pm_i x)], st, M) = pm_Rc X 143 (1120, [o0, o1, pm_nlz o2, some (pm_i (x + (nI 6)))], st, M) := pm_R_go rfl
set_option maxRecDepth 100000 in
theorem rx_143_1120 {X : pm_X} {o0 o1 o2 o3 : Option pm_V} {M : pm_M} {st : List pm_V} : pm_Rc X 143 (1120, [o0, o1, o2, o3], st, M) = pm_Rc X 143 (18, [o0, o1, o2, o3], st, M) := pm_R_go rfl
set_option maxRecDepth 100000 in
theorem rx_143_1123 {X : pm_X} {o0 o1 o2 o3 : Option pm_V} {M : pm_M} {st : List pm_V} : pm_Rc X 143 (1123, [o0, o1, o2, o3], st, M) = pm_Rc X 143 (1124, [o0, o1, o2, o3], pm_i (nI 1) :: st, M) := pm_R_go rfl
set_option maxRecDepth 100000 in
theorem rx_143_1124_0 {X : pm_X} {o0 o1 o2 o3 : Option pm_V} {M : pm_M} : pm_Rc X 143 (1124, [o0, o1, o2, o3], [pm_i (nI 0)], M) = some (some (pm_i (nI 0)), M) := pm_R_ret rfl
set_option maxRecDepth 100000 in
theorem rx_143_1124_1 {X : pm_X} {o0 o1 o2 o3 : Option pm_V} {M : pm_M} : pm_Rc X 143 (1124, [o0, o1, o2, o3], [pm_i (nI 1)], M) = some (some (pm_i (nI 1)), M) := pm_R_ret rfl
