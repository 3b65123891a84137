/-! rows by number: the layout, constants, fields, calls -/
def pmT0 : pmT := [(11, 11), (22, 8), (5, 7), (20, 120), (20, 120), (5, 7), (20, 120), (20, 120), (23, 6), (4, 8), (20, 160), (20, 161), (20, 161), (20, 161), (9, 3), (20, 160), (20, 3), (20, 160), (24, 4), (1, 18), (22, 0), (5, 7), (20, 120), (20, 120), (9, 3), (20, 160), (20, 3), (20, 160), (20, 60), (20, 8), (20, 8), (20, 2), (20, 2), (20, 2), (20, 6), (21, 4), (9, 3), (20, 160), (20, 3), (20, 160), (9, 3), (20, 160), (20, 3), (20, 160), (9, 3), (20, 160), (20, 3), (20, 160), (9, 3), (20, 160), (20, 3), (20, 160), (9, 3), (20, 160), (20, 3), (20, 160), (9, 3), (20, 160), (20, 3), (20, 160), (6, 3), (20, 60), (6, 3), (20, 60), (6, 3), (20, 60), (6, 3), (20, 60), (12, 53), (20, 8), (20, 8), (20, 8), (20, 120), (20, 120), (20, 160), (20, 2880), (20, 2880), (20, 18), (20, 161), (20, 161), (20, 6), (20, 2), (20, 2), (20, 2), (20, 8), (20, 8), (20, 120), (20, 120), (20, 4), (20, 4), (20, 240), (20, 60)]
/-- the references that never change -/
def pmRfL : List (Nat × Nat × Nat) := [(32, 0, 33), (32, 2, 34), (32, 3, 37), (32, 5, 40), (32, 7, 41), (32, 8, 50), (32, 9, 51), (32, 10, 67), (34, 0, 35), (34, 1, 36), (37, 0, 38), (37, 1, 39), (40, 0, 68), (40, 1, 72), (40, 2, 76), (40, 3, 80), (40, 4, 84), (40, 5, 88), (41, 0, 42), (41, 2, 43), (41, 3, 44), (41, 4, 45), (46, 0, 47), (46, 1, 48), (46, 2, 49), (50, 0, 92), (50, 1, 94), (50, 2, 96), (50, 3, 98), (51, 4, 60), (51, 9, 61), (51, 10, 62), (51, 11, 63), (51, 12, 64), (51, 13, 65), (51, 14, 66), (53, 0, 54), (53, 1, 55), (56, 0, 57), (56, 1, 58), (56, 2, 59), (68, 0, 69), (68, 1, 70), (68, 2, 71), (72, 0, 73), (72, 1, 74), (72, 2, 75), (76, 0, 77), (76, 1, 78), (76, 2, 79), (80, 0, 81), (80, 1, 82), (80, 2, 83), (84, 0, 85), (84, 1, 86), (84, 2, 87), (88, 0, 89), (88, 1, 90), (88, 2, 91), (92, 2, 93), (94, 2, 95), (96, 2, 97), (98, 2, 99), (100, 5, 101), (100, 6, 102), (100, 7, 103), (100, 8, 104), (100, 9, 105), (100, 20, 106), (100, 21, 107), (100, 22, 108), (100, 23, 109), (100, 24, 110), (100, 25, 111), (100, 26, 112), (100, 27, 113), (100, 28, 114), (100, 29, 115), (100, 30, 116), (100, 31, 117), (100, 47, 118), (100, 48, 119), (100, 49, 120), (100, 50, 121), (100, 51, 122), (100, 52, 123)]
def pmRf (v : pmV) : Prop := ∀ q ∈ pmRfL, v.2.2 q.1 q.2.1 = some q.2.2
theorem rf_32_0 {v : pmV} (h : pmRf v) : v.2.2 32 0 = some 33 := h (32, 0, 33) (List.mem_of_getElem? (i := 0) rfl)
theorem rf_32_2 {v : pmV} (h : pmRf v) : v.2.2 32 2 = some 34 := h (32, 2, 34) (List.mem_of_getElem? (i := 1) rfl)
theorem rf_32_3 {v : pmV} (h : pmRf v) : v.2.2 32 3 = some 37 := h (32, 3, 37) (List.mem_of_getElem? (i := 2) rfl)
theorem rf_32_5 {v : pmV} (h : pmRf v) : v.2.2 32 5 = some 40 := h (32, 5, 40) (List.mem_of_getElem? (i := 3) rfl)
theorem rf_32_7 {v : pmV} (h : pmRf v) : v.2.2 32 7 = some 41 := h (32, 7, 41) (List.mem_of_getElem? (i := 4) rfl)
theorem rf_32_8 {v : pmV} (h : pmRf v) : v.2.2 32 8 = some 50 := h (32, 8, 50) (List.mem_of_getElem? (i := 5) rfl)
theorem rf_32_9 {v : pmV} (h : pmRf v) : v.2.2 32 9 = some 51 := h (32, 9, 51) (List.mem_of_getElem? (i := 6) rfl)
theorem rf_32_10 {v : pmV} (h : pmRf v) : v.2.2 32 10 = some 67 := h (32, 10, 67) (List.mem_of_getElem? (i := 7) rfl)
theorem rf_34_0 {v : pmV} (h : pmRf v) : v.2.2 34 0 = some 35 := h (34, 0, 35) (List.mem_of_getElem? (i := 8) rfl)
theorem rf_34_1 {v : pmV} (h : pmRf v) : v.2.2 34 1 = some 36 := h (34, 1, 36) (List.mem_of_getElem? (i := 9) rfl)
theorem rf_37_0 {v : pmV} (h : pmRf v) : v.2.2 37 0 = some 38 := h (37, 0, 38) (List.mem_of_getElem? (i := 10) rfl)
theorem rf_37_1 {v : pmV} (h : pmRf v) : v.2.2 37 1 = some 39 := h (37, 1, 39) (List.mem_of_getElem? (i := 11) rfl)
theorem rf_40_0 {v : pmV} (h : pmRf v) : v.2.2 40 0 = some 68 := h (40, 0, 68) (List.mem_of_getElem? (i := 12) rfl)
theorem rf_40_1 {v : pmV} (h : pmRf v) : v.2.2 40 1 = some 72 := h (40, 1, 72) (List.mem_of_getElem? (i := 13) rfl)
theorem rf_40_2 {v : pmV} (h : pmRf v) : v.2.2 40 2 = some 76 := h (40, 2, 76) (List.mem_of_getElem? (i := 14) rfl)
theorem rf_40_3 {v : pmV} (h : pmRf v) : v.2.2 40 3 = some 80 := h (40, 3, 80) (List.mem_of_getElem? (i := 15) rfl)
theorem rf_40_4 {v : pmV} (h : pmRf v) : v.2.2 40 4 = some 84 := h (40, 4, 84) (List.mem_of_getElem? (i := 16) rfl)
theorem rf_40_5 {v : pmV} (h : pmRf v) : v.2.2 40 5 = some 88 := h (40, 5, 88) (List.mem_of_getElem? (i := 17) rfl)
theorem rf_41_0 {v : pmV} (h : pmRf v) : v.2.2 41 0 = some 42 := h (41, 0, 42) (List.mem_of_getElem? (i := 18) rfl)
theorem rf_41_2 {v : pmV} (h : pmRf v) : v.2.2 41 2 = some 43 := h (41, 2, 43) (List.mem_of_getElem? (i := 19) rfl)
theorem rf_41_3 {v : pmV} (h : pmRf v) : v.2.2 41 3 = some 44 := h (41, 3, 44) (List.mem_of_getElem? (i := 20) rfl)
theorem rf_41_4 {v : pmV} (h : pmRf v) : v.2.2 41 4 = some 45 := h (41, 4, 45) (List.mem_of_getElem? (i := 21) rfl)
theorem rf_46_0 {v : pmV} (h : pmRf v) : v.2.2 46 0 = some 47 := h (46, 0, 47) (List.mem_of_getElem? (i := 22) rfl)
theorem rf_46_1 {v : pmV} (h : pmRf v) : v.2.2 46 1 = some 48 := h (46, 1, 48) (List.mem_of_getElem? (i := 23) rfl)
theorem rf_46_2 {v : pmV} (h : pmRf v) : v.2.2 46 2 = some 49 := h (46, 2, 49) (List.mem_of_getElem? (i := 24) rfl)
theorem rf_50_0 {v : pmV} (h : pmRf v) : v.2.2 50 0 = some 92 := h (50, 0, 92) (List.mem_of_getElem? (i := 25) rfl)
theorem rf_50_1 {v : pmV} (h : pmRf v) : v.2.2 50 1 = some 94 := h (50, 1, 94) (List.mem_of_getElem? (i := 26) rfl)
theorem rf_50_2 {v : pmV} (h : pmRf v) : v.2.2 50 2 = some 96 := h (50, 2, 96) (List.mem_of_getElem? (i := 27) rfl)
theorem rf_50_3 {v : pmV} (h : pmRf v) : v.2.2 50 3 = some 98 := h (50, 3, 98) (List.mem_of_getElem? (i := 28) rfl)
theorem rf_51_4 {v : pmV} (h : pmRf v) : v.2.2 51 4 = some 60 := h (51, 4, 60) (List.mem_of_getElem? (i := 29) rfl)
theorem rf_51_9 {v : pmV} (h : pmRf v) : v.2.2 51 9 = some 61 := h (51, 9, 61) (List.mem_of_getElem? (i := 30) rfl)
theorem rf_51_10 {v : pmV} (h : pmRf v) : v.2.2 51 10 = some 62 := h (51, 10, 62) (List.mem_of_getElem? (i := 31) rfl)
theorem rf_51_11 {v : pmV} (h : pmRf v) : v.2.2 51 11 = some 63 := h (51, 11, 63) (List.mem_of_getElem? (i := 32) rfl)
theorem rf_51_12 {v : pmV} (h : pmRf v) : v.2.2 51 12 = some 64 := h (51, 12, 64) (List.mem_of_getElem? (i := 33) rfl)
theorem rf_51_13 {v : pmV} (h : pmRf v) : v.2.2 51 13 = some 65 := h (51, 13, 65) (List.mem_of_getElem? (i := 34) rfl)
theorem rf_51_14 {v : pmV} (h : pmRf v) : v.2.2 51 14 = some 66 := h (51, 14, 66) (List.mem_of_getElem? (i := 35) rfl)
theorem rf_53_0 {v : pmV} (h : pmRf v) : v.2.2 53 0 = some 54 := h (53, 0, 54) (List.mem_of_getElem? (i := 36) rfl)
theorem rf_53_1 {v : pmV} (h : pmRf v) : v.2.2 53 1 = some 55 := h (53, 1, 55) (List.mem_of_getElem? (i := 37) rfl)
theorem rf_56_0 {v : pmV} (h : pmRf v) : v.2.2 56 0 = some 57 := h (56, 0, 57) (List.mem_of_getElem? (i := 38) rfl)
theorem rf_56_1 {v : pmV} (h : pmRf v) : v.2.2 56 1 = some 58 := h (56, 1, 58) (List.mem_of_getElem? (i := 39) rfl)
theorem rf_56_2 {v : pmV} (h : pmRf v) : v.2.2 56 2 = some 59 := h (56, 2, 59) (List.mem_of_getElem? (i := 40) rfl)
theorem rf_68_0 {v : pmV} (h : pmRf v) : v.2.2 68 0 = some 69 := h (68, 0, 69) (List.mem_of_getElem? (i := 41) rfl)
theorem rf_68_1 {v : pmV} (h : pmRf v) : v.2.2 68 1 = some 70 := h (68, 1, 70) (List.mem_of_getElem? (i := 42) rfl)
theorem rf_68_2 {v : pmV} (h : pmRf v) : v.2.2 68 2 = some 71 := h (68, 2, 71) (List.mem_of_getElem? (i := 43) rfl)
theorem rf_72_0 {v : pmV} (h : pmRf v) : v.2.2 72 0 = some 73 := h (72, 0, 73) (List.mem_of_getElem? (i := 44) rfl)
theorem rf_72_1 {v : pmV} (h : pmRf v) : v.2.2 72 1 = some 74 := h (72, 1, 74) (List.mem_of_getElem? (i := 45) rfl)
theorem rf_72_2 {v : pmV} (h : pmRf v) : v.2.2 72 2 = some 75 := h (72, 2, 75) (List.mem_of_getElem? (i := 46) rfl)
theorem rf_76_0 {v : pmV} (h : pmRf v) : v.2.2 76 0 = some 77 := h (76, 0, 77) (List.mem_of_getElem? (i := 47) rfl)
theorem rf_76_1 {v : pmV} (h : pmRf v) : v.2.2 76 1 = some 78 := h (76, 1, 78) (List.mem_of_getElem? (i := 48) rfl)
theorem rf_76_2 {v : pmV} (h : pmRf v) : v.2.2 76 2 = some 79 := h (76, 2, 79) (List.mem_of_getElem? (i := 49) rfl)
theorem rf_80_0 {v : pmV} (h : pmRf v) : v.2.2 80 0 = some 81 := h (80, 0, 81) (List.mem_of_getElem? (i := 50) rfl)
theorem rf_80_1 {v : pmV} (h : pmRf v) : v.2.2 80 1 = some 82 := h (80, 1, 82) (List.mem_of_getElem? (i := 51) rfl)
theorem rf_80_2 {v : pmV} (h : pmRf v) : v.2.2 80 2 = some 83 := h (80, 2, 83) (List.mem_of_getElem? (i := 52) rfl)
theorem rf_84_0 {v : pmV} (h : pmRf v) : v.2.2 84 0 = some 85 := h (84, 0, 85) (List.mem_of_getElem? (i := 53) rfl)
theorem rf_84_1 {v : pmV} (h : pmRf v) : v.2.2 84 1 = some 86 := h (84, 1, 86) (List.mem_of_getElem? (i := 54) rfl)
theorem rf_84_2 {v : pmV} (h : pmRf v) : v.2.2 84 2 = some 87 := h (84, 2, 87) (List.mem_of_getElem? (i := 55) rfl)
theorem rf_88_0 {v : pmV} (h : pmRf v) : v.2.2 88 0 = some 89 := h (88, 0, 89) (List.mem_of_getElem? (i := 56) rfl)
theorem rf_88_1 {v : pmV} (h : pmRf v) : v.2.2 88 1 = some 90 := h (88, 1, 90) (List.mem_of_getElem? (i := 57) rfl)
theorem rf_88_2 {v : pmV} (h : pmRf v) : v.2.2 88 2 = some 91 := h (88, 2, 91) (List.mem_of_getElem? (i := 58) rfl)
theorem rf_92_2 {v : pmV} (h : pmRf v) : v.2.2 92 2 = some 93 := h (92, 2, 93) (List.mem_of_getElem? (i := 59) rfl)
theorem rf_94_2 {v : pmV} (h : pmRf v) : v.2.2 94 2 = some 95 := h (94, 2, 95) (List.mem_of_getElem? (i := 60) rfl)
theorem rf_96_2 {v : pmV} (h : pmRf v) : v.2.2 96 2 = some 97 := h (96, 2, 97) (List.mem_of_getElem? (i := 61) rfl)
theorem rf_98_2 {v : pmV} (h : pmRf v) : v.2.2 98 2 = some 99 := h (98, 2, 99) (List.mem_of_getElem? (i := 62) rfl)
theorem rf_100_5 {v : pmV} (h : pmRf v) : v.2.2 100 5 = some 101 := h (100, 5, 101) (List.mem_of_getElem? (i := 63) rfl)
theorem rf_100_6 {v : pmV} (h : pmRf v) : v.2.2 100 6 = some 102 := h (100, 6, 102) (List.mem_of_getElem? (i := 64) rfl)
theorem rf_100_7 {v : pmV} (h : pmRf v) : v.2.2 100 7 = some 103 := h (100, 7, 103) (List.mem_of_getElem? (i := 65) rfl)
theorem rf_100_8 {v : pmV} (h : pmRf v) : v.2.2 100 8 = some 104 := h (100, 8, 104) (List.mem_of_getElem? (i := 66) rfl)
theorem rf_100_9 {v : pmV} (h : pmRf v) : v.2.2 100 9 = some 105 := h (100, 9, 105) (List.mem_of_getElem? (i := 67) rfl)
theorem rf_100_20 {v : pmV} (h : pmRf v) : v.2.2 100 20 = some 106 := h (100, 20, 106) (List.mem_of_getElem? (i := 68) rfl)
theorem rf_100_21 {v : pmV} (h : pmRf v) : v.2.2 100 21 = some 107 := h (100, 21, 107) (List.mem_of_getElem? (i := 69) rfl)
theorem rf_100_22 {v : pmV} (h : pmRf v) : v.2.2 100 22 = some 108 := h (100, 22, 108) (List.mem_of_getElem? (i := 70) rfl)
theorem rf_100_23 {v : pmV} (h : pmRf v) : v.2.2 100 23 = some 109 := h (100, 23, 109) (List.mem_of_getElem? (i := 71) rfl)
theorem rf_100_24 {v : pmV} (h : pmRf v) : v.2.2 100 24 = some 110 := h (100, 24, 110) (List.mem_of_getElem? (i := 72) rfl)
theorem rf_100_25 {v : pmV} (h : pmRf v) : v.2.2 100 25 = some 111 := h (100, 25, 111) (List.mem_of_getElem? (i := 73) rfl)
theorem rf_100_26 {v : pmV} (h : pmRf v) : v.2.2 100 26 = some 112 := h (100, 26, 112) (List.mem_of_getElem? (i := 74) rfl)
theorem rf_100_27 {v : pmV} (h : pmRf v) : v.2.2 100 27 = some 113 := h (100, 27, 113) (List.mem_of_getElem? (i := 75) rfl)
theorem rf_100_28 {v : pmV} (h : pmRf v) : v.2.2 100 28 = some 114 := h (100, 28, 114) (List.mem_of_getElem? (i := 76) rfl)
theorem rf_100_29 {v : pmV} (h : pmRf v) : v.2.2 100 29 = some 115 := h (100, 29, 115) (List.mem_of_getElem? (i := 77) rfl)
theorem rf_100_30 {v : pmV} (h : pmRf v) : v.2.2 100 30 = some 116 := h (100, 30, 116) (List.mem_of_getElem? (i := 78) rfl)
theorem rf_100_31 {v : pmV} (h : pmRf v) : v.2.2 100 31 = some 117 := h (100, 31, 117) (List.mem_of_getElem? (i := 79) rfl)
theorem rf_100_47 {v : pmV} (h : pmRf v) : v.2.2 100 47 = some 118 := h (100, 47, 118) (List.mem_of_getElem? (i := 80) rfl)
theorem rf_100_48 {v : pmV} (h : pmRf v) : v.2.2 100 48 = some 119 := h (100, 48, 119) (List.mem_of_getElem? (i := 81) rfl)
theorem rf_100_49 {v : pmV} (h : pmRf v) : v.2.2 100 49 = some 120 := h (100, 49, 120) (List.mem_of_getElem? (i := 82) rfl)
theorem rf_100_50 {v : pmV} (h : pmRf v) : v.2.2 100 50 = some 121 := h (100, 50, 121) (List.mem_of_getElem? (i := 83) rfl)
theorem rf_100_51 {v : pmV} (h : pmRf v) : v.2.2 100 51 = some 122 := h (100, 51, 122) (List.mem_of_getElem? (i := 84) rfl)
theorem rf_100_52 {v : pmV} (h : pmRf v) : v.2.2 100 52 = some 123 := h (100, 52, 123) (List.mem_of_getElem? (i := 85) rfl)
theorem kd_32 {LT : pmT} : pmKind (pmT0 ++ LT) 32 = 11 := rfl
theorem ty_33 {LT : pmT} : (pmT0 ++ LT)[33 - 32]? = some (22, 8) := rfl
theorem kd_34 {LT : pmT} : pmKind (pmT0 ++ LT) 34 = 5 := rfl
theorem ty_35 {LT : pmT} : (pmT0 ++ LT)[35 - 32]? = some (20, 120) := rfl
theorem ty_36 {LT : pmT} : (pmT0 ++ LT)[36 - 32]? = some (20, 120) := rfl
theorem kd_37 {LT : pmT} : pmKind (pmT0 ++ LT) 37 = 5 := rfl
theorem ty_38 {LT : pmT} : (pmT0 ++ LT)[38 - 32]? = some (20, 120) := rfl
theorem ty_39 {LT : pmT} : (pmT0 ++ LT)[39 - 32]? = some (20, 120) := rfl
theorem ty_40 {LT : pmT} : (pmT0 ++ LT)[40 - 32]? = some (23, 6) := rfl
theorem kd_41 {LT : pmT} : pmKind (pmT0 ++ LT) 41 = 4 := rfl
theorem ty_42 {LT : pmT} : (pmT0 ++ LT)[42 - 32]? = some (20, 160) := rfl
theorem ty_43 {LT : pmT} : (pmT0 ++ LT)[43 - 32]? = some (20, 161) := rfl
theorem ty_44 {LT : pmT} : (pmT0 ++ LT)[44 - 32]? = some (20, 161) := rfl
theorem ty_45 {LT : pmT} : (pmT0 ++ LT)[45 - 32]? = some (20, 161) := rfl
theorem kd_46 {LT : pmT} : pmKind (pmT0 ++ LT) 46 = 9 := rfl
theorem ty_47 {LT : pmT} : (pmT0 ++ LT)[47 - 32]? = some (20, 160) := rfl
theorem ty_48 {LT : pmT} : (pmT0 ++ LT)[48 - 32]? = some (20, 3) := rfl
theorem ty_49 {LT : pmT} : (pmT0 ++ LT)[49 - 32]? = some (20, 160) := rfl
theorem ty_50 {LT : pmT} : (pmT0 ++ LT)[50 - 32]? = some (24, 4) := rfl
theorem kd_51 {LT : pmT} : pmKind (pmT0 ++ LT) 51 = 1 := rfl
theorem ty_52 {LT : pmT} : (pmT0 ++ LT)[52 - 32]? = some (22, 0) := rfl
theorem kd_53 {LT : pmT} : pmKind (pmT0 ++ LT) 53 = 5 := rfl
theorem ty_54 {LT : pmT} : (pmT0 ++ LT)[54 - 32]? = some (20, 120) := rfl
theorem ty_55 {LT : pmT} : (pmT0 ++ LT)[55 - 32]? = some (20, 120) := rfl
theorem kd_56 {LT : pmT} : pmKind (pmT0 ++ LT) 56 = 9 := rfl
theorem ty_57 {LT : pmT} : (pmT0 ++ LT)[57 - 32]? = some (20, 160) := rfl
theorem ty_58 {LT : pmT} : (pmT0 ++ LT)[58 - 32]? = some (20, 3) := rfl
theorem ty_59 {LT : pmT} : (pmT0 ++ LT)[59 - 32]? = some (20, 160) := rfl
theorem ty_60 {LT : pmT} : (pmT0 ++ LT)[60 - 32]? = some (20, 60) := rfl
theorem ty_61 {LT : pmT} : (pmT0 ++ LT)[61 - 32]? = some (20, 8) := rfl
theorem ty_62 {LT : pmT} : (pmT0 ++ LT)[62 - 32]? = some (20, 8) := rfl
theorem ty_63 {LT : pmT} : (pmT0 ++ LT)[63 - 32]? = some (20, 2) := rfl
theorem ty_64 {LT : pmT} : (pmT0 ++ LT)[64 - 32]? = some (20, 2) := rfl
theorem ty_65 {LT : pmT} : (pmT0 ++ LT)[65 - 32]? = some (20, 2) := rfl
theorem ty_66 {LT : pmT} : (pmT0 ++ LT)[66 - 32]? = some (20, 6) := rfl
theorem ty_67 {LT : pmT} : (pmT0 ++ LT)[67 - 32]? = some (21, 4) := rfl
theorem kd_68 {LT : pmT} : pmKind (pmT0 ++ LT) 68 = 9 := rfl
theorem ty_69 {LT : pmT} : (pmT0 ++ LT)[69 - 32]? = some (20, 160) := rfl
theorem ty_70 {LT : pmT} : (pmT0 ++ LT)[70 - 32]? = some (20, 3) := rfl
theorem ty_71 {LT : pmT} : (pmT0 ++ LT)[71 - 32]? = some (20, 160) := rfl
theorem kd_72 {LT : pmT} : pmKind (pmT0 ++ LT) 72 = 9 := rfl
theorem ty_73 {LT : pmT} : (pmT0 ++ LT)[73 - 32]? = some (20, 160) := rfl
theorem ty_74 {LT : pmT} : (pmT0 ++ LT)[74 - 32]? = some (20, 3) := rfl
theorem ty_75 {LT : pmT} : (pmT0 ++ LT)[75 - 32]? = some (20, 160) := rfl
theorem kd_76 {LT : pmT} : pmKind (pmT0 ++ LT) 76 = 9 := rfl
theorem ty_77 {LT : pmT} : (pmT0 ++ LT)[77 - 32]? = some (20, 160) := rfl
theorem ty_78 {LT : pmT} : (pmT0 ++ LT)[78 - 32]? = some (20, 3) := rfl
theorem ty_79 {LT : pmT} : (pmT0 ++ LT)[79 - 32]? = some (20, 160) := rfl
theorem kd_80 {LT : pmT} : pmKind (pmT0 ++ LT) 80 = 9 := rfl
theorem ty_81 {LT : pmT} : (pmT0 ++ LT)[81 - 32]? = some (20, 160) := rfl
theorem ty_82 {LT : pmT} : (pmT0 ++ LT)[82 - 32]? = some (20, 3) := rfl
theorem ty_83 {LT : pmT} : (pmT0 ++ LT)[83 - 32]? = some (20, 160) := rfl
theorem kd_84 {LT : pmT} : pmKind (pmT0 ++ LT) 84 = 9 := rfl
theorem ty_85 {LT : pmT} : (pmT0 ++ LT)[85 - 32]? = some (20, 160) := rfl
theorem ty_86 {LT : pmT} : (pmT0 ++ LT)[86 - 32]? = some (20, 3) := rfl
theorem ty_87 {LT : pmT} : (pmT0 ++ LT)[87 - 32]? = some (20, 160) := rfl
theorem kd_88 {LT : pmT} : pmKind (pmT0 ++ LT) 88 = 9 := rfl
theorem ty_89 {LT : pmT} : (pmT0 ++ LT)[89 - 32]? = some (20, 160) := rfl
theorem ty_90 {LT : pmT} : (pmT0 ++ LT)[90 - 32]? = some (20, 3) := rfl
theorem ty_91 {LT : pmT} : (pmT0 ++ LT)[91 - 32]? = some (20, 160) := rfl
theorem kd_92 {LT : pmT} : pmKind (pmT0 ++ LT) 92 = 6 := rfl
theorem ty_93 {LT : pmT} : (pmT0 ++ LT)[93 - 32]? = some (20, 60) := rfl
theorem kd_94 {LT : pmT} : pmKind (pmT0 ++ LT) 94 = 6 := rfl
theorem ty_95 {LT : pmT} : (pmT0 ++ LT)[95 - 32]? = some (20, 60) := rfl
theorem kd_96 {LT : pmT} : pmKind (pmT0 ++ LT) 96 = 6 := rfl
theorem ty_97 {LT : pmT} : (pmT0 ++ LT)[97 - 32]? = some (20, 60) := rfl
theorem kd_98 {LT : pmT} : pmKind (pmT0 ++ LT) 98 = 6 := rfl
theorem ty_99 {LT : pmT} : (pmT0 ++ LT)[99 - 32]? = some (20, 60) := rfl
theorem kd_100 {LT : pmT} : pmKind (pmT0 ++ LT) 100 = 12 := rfl
theorem ty_101 {LT : pmT} : (pmT0 ++ LT)[101 - 32]? = some (20, 8) := rfl
theorem ty_102 {LT : pmT} : (pmT0 ++ LT)[102 - 32]? = some (20, 8) := rfl
theorem ty_103 {LT : pmT} : (pmT0 ++ LT)[103 - 32]? = some (20, 8) := rfl
theorem ty_104 {LT : pmT} : (pmT0 ++ LT)[104 - 32]? = some (20, 120) := rfl
theorem ty_105 {LT : pmT} : (pmT0 ++ LT)[105 - 32]? = some (20, 120) := rfl
theorem ty_106 {LT : pmT} : (pmT0 ++ LT)[106 - 32]? = some (20, 160) := rfl
theorem ty_107 {LT : pmT} : (pmT0 ++ LT)[107 - 32]? = some (20, 2880) := rfl
theorem ty_108 {LT : pmT} : (pmT0 ++ LT)[108 - 32]? = some (20, 2880) := rfl
theorem ty_109 {LT : pmT} : (pmT0 ++ LT)[109 - 32]? = some (20, 18) := rfl
theorem ty_110 {LT : pmT} : (pmT0 ++ LT)[110 - 32]? = some (20, 161) := rfl
theorem ty_111 {LT : pmT} : (pmT0 ++ LT)[111 - 32]? = some (20, 161) := rfl
theorem ty_112 {LT : pmT} : (pmT0 ++ LT)[112 - 32]? = some (20, 6) := rfl
theorem ty_113 {LT : pmT} : (pmT0 ++ LT)[113 - 32]? = some (20, 2) := rfl
theorem ty_114 {LT : pmT} : (pmT0 ++ LT)[114 - 32]? = some (20, 2) := rfl
theorem ty_115 {LT : pmT} : (pmT0 ++ LT)[115 - 32]? = some (20, 2) := rfl
theorem ty_116 {LT : pmT} : (pmT0 ++ LT)[116 - 32]? = some (20, 8) := rfl
theorem ty_117 {LT : pmT} : (pmT0 ++ LT)[117 - 32]? = some (20, 8) := rfl
theorem ty_118 {LT : pmT} : (pmT0 ++ LT)[118 - 32]? = some (20, 120) := rfl
theorem ty_119 {LT : pmT} : (pmT0 ++ LT)[119 - 32]? = some (20, 120) := rfl
theorem ty_120 {LT : pmT} : (pmT0 ++ LT)[120 - 32]? = some (20, 4) := rfl
theorem ty_121 {LT : pmT} : (pmT0 ++ LT)[121 - 32]? = some (20, 4) := rfl
theorem ty_122 {LT : pmT} : (pmT0 ++ LT)[122 - 32]? = some (20, 240) := rfl
theorem ty_123 {LT : pmT} : (pmT0 ++ LT)[123 - 32]? = some (20, 60) := rfl
theorem kd_0 {T : pmT} : pmKind T 0 = 20 := rfl
theorem kd_2 {T : pmT} : pmKind T 2 = 20 := rfl
theorem kd_4 {T : pmT} : pmKind T 4 = 20 := rfl
theorem kd_6 {T : pmT} : pmKind T 6 = 20 := rfl
theorem kd_8 {T : pmT} : pmKind T 8 = 20 := rfl
theorem kd_10 {T : pmT} : pmKind T 10 = 20 := rfl
theorem kd_12 {T : pmT} : pmKind T 12 = 20 := rfl
theorem kd_14 {T : pmT} : pmKind T 14 = 20 := rfl
theorem kd_16 {T : pmT} : pmKind T 16 = 20 := rfl
theorem kd_18 {T : pmT} : pmKind T 18 = 20 := rfl
theorem kd_20 {T : pmT} : pmKind T 20 = 20 := rfl
theorem kd_22 {T : pmT} : pmKind T 22 = 20 := rfl
theorem kd_24 {T : pmT} : pmKind T 24 = 20 := rfl
theorem kd_26 {T : pmT} : pmKind T 26 = 20 := rfl
theorem kI_m1 : Int32.ofInt (-1) = (-1) := by decide
theorem kI_0 : Int32.ofInt 0 = 0 := by decide
theorem kI_1 : Int32.ofInt 1 = 1 := by decide
theorem kI_2 : Int32.ofInt 2 = 2 := by decide
theorem kI_3 : Int32.ofInt 3 = 3 := by decide
theorem kI_4 : Int32.ofInt 4 = 4 := by decide
theorem kI_5 : Int32.ofInt 5 = 5 := by decide
theorem kB_m100 : (Int8.ofInt (-100)).toInt32 = (-100) := by decide
theorem kB_m99 : (Int8.ofInt (-99)).toInt32 = (-99) := by decide
theorem kB_m15 : (Int8.ofInt (-15)).toInt32 = (-15) := by decide
theorem kB_m14 : (Int8.ofInt (-14)).toInt32 = (-14) := by decide
theorem kB_m13 : (Int8.ofInt (-13)).toInt32 = (-13) := by decide
theorem kB_m12 : (Int8.ofInt (-12)).toInt32 = (-12) := by decide
theorem kB_m11 : (Int8.ofInt (-11)).toInt32 = (-11) := by decide
theorem kB_m10 : (Int8.ofInt (-10)).toInt32 = (-10) := by decide
theorem kB_m9 : (Int8.ofInt (-9)).toInt32 = (-9) := by decide
theorem kB_m8 : (Int8.ofInt (-8)).toInt32 = (-8) := by decide
theorem kB_m7 : (Int8.ofInt (-7)).toInt32 = (-7) := by decide
theorem kB_m6 : (Int8.ofInt (-6)).toInt32 = (-6) := by decide
theorem kB_m4 : (Int8.ofInt (-4)).toInt32 = (-4) := by decide
theorem kB_m3 : (Int8.ofInt (-3)).toInt32 = (-3) := by decide
theorem kB_m2 : (Int8.ofInt (-2)).toInt32 = (-2) := by decide
theorem kB_6 : (Int8.ofInt 6).toInt32 = 6 := by decide
theorem kB_7 : (Int8.ofInt 7).toInt32 = 7 := by decide
theorem kB_8 : (Int8.ofInt 8).toInt32 = 8 := by decide
theorem kB_9 : (Int8.ofInt 9).toInt32 = 9 := by decide
theorem kB_10 : (Int8.ofInt 10).toInt32 = 10 := by decide
theorem kB_12 : (Int8.ofInt 12).toInt32 = 12 := by decide
theorem kB_18 : (Int8.ofInt 18).toInt32 = 18 := by decide
theorem kB_20 : (Int8.ofInt 20).toInt32 = 20 := by decide
theorem kB_30 : (Int8.ofInt 30).toInt32 = 30 := by decide
theorem kB_31 : (Int8.ofInt 31).toInt32 = 31 := by decide
theorem kB_32 : (Int8.ofInt 32).toInt32 = 32 := by decide
theorem kB_40 : (Int8.ofInt 40).toInt32 = 40 := by decide
theorem kB_41 : (Int8.ofInt 41).toInt32 = 41 := by decide
theorem kB_42 : (Int8.ofInt 42).toInt32 = 42 := by decide
theorem kB_43 : (Int8.ofInt 43).toInt32 = 43 := by decide
theorem kB_45 : (Int8.ofInt 45).toInt32 = 45 := by decide
theorem kB_48 : (Int8.ofInt 48).toInt32 = 48 := by decide
theorem kB_57 : (Int8.ofInt 57).toInt32 = 57 := by decide
theorem kB_59 : (Int8.ofInt 59).toInt32 = 59 := by decide
theorem kB_60 : (Int8.ofInt 60).toInt32 = 60 := by decide
theorem kB_61 : (Int8.ofInt 61).toInt32 = 61 := by decide
theorem kB_96 : (Int8.ofInt 96).toInt32 = 96 := by decide
theorem kB_97 : (Int8.ofInt 97).toInt32 = 97 := by decide
theorem kB_99 : (Int8.ofInt 99).toInt32 = 99 := by decide
theorem kB_120 : (Int8.ofInt 120).toInt32 = 120 := by decide
theorem kB_122 : (Int8.ofInt 122).toInt32 = 122 := by decide
theorem kS_160 : (Int16.ofInt 160).toInt32 = 160 := by decide
theorem kS_161 : (Int16.ofInt 161).toInt32 = 161 := by decide
theorem kS_240 : (Int16.ofInt 240).toInt32 = 240 := by decide
theorem kS_255 : (Int16.ofInt 255).toInt32 = 255 := by decide
theorem kS_320 : (Int16.ofInt 320).toInt32 = 320 := by decide
theorem kS_480 : (Int16.ofInt 480).toInt32 = 480 := by decide
theorem kS_498 : (Int16.ofInt 498).toInt32 = 498 := by decide
theorem kS_591 : (Int16.ofInt 591).toInt32 = 591 := by decide
theorem kS_599 : (Int16.ofInt 599).toInt32 = 599 := by decide
theorem kS_1476 : (Int16.ofInt 1476).toInt32 = 1476 := by decide
theorem kS_2739 : (Int16.ofInt 2739).toInt32 = 2739 := by decide
theorem kS_2880 : (Int16.ofInt 2880).toInt32 = 2880 := by decide
theorem kS_9999 : (Int16.ofInt 9999).toInt32 = 9999 := by decide
theorem kS_14836 : (Int16.ofInt 14836).toInt32 = 14836 := by decide
theorem pm_rf {v : pmV} {a k r : Nat} (h : v.2.2 a k = some r) : va_rf (v.2.2 a k) = .ref r := congrArg va_rf h
theorem ev_callS {X : pmX} {d : Nat} {M : pmM} {ls : List Value} {T : pmT} {v : pmV} {P : Option Value → pmT → pmV → Prop} (pc : Nat) {idx kd k j h0 : Nat} {C : pmM} {hh : List Nat} {as r L0 : List Value} (hd : decode M.2.2.1 pc = .ok (.invokestatic idx, 3)) (hf : pmAt pmStL (M.1, idx) = some (kd, k, j, hh)) (h1 : pmAt pmMxL (M.1, idx) = none) (h2 : pmAt pmMnL (M.1, idx) = none) (h3 : pmAt pmAcL (M.1, idx) = none) (hj : pmLs[j]? = some (C, h0)) (hk : as.length = k) (hn : pmNum r ≤ 8) (hl : (pmArgs as).length ≤ C.2.2.2.1) (hp : pmPad C.2.2.2.1 (pmArgs as) = L0)
    (kk : EvP X d C 0 L0 [] T v (fun o T' v' => EvP X (d + 1) M (pc + 3) ls (pmPush o r) T' v' P)) : EvP X (d + 1) M pc ls (as.reverse ++ r) T v P := by
  subst hk; subst hp
  refine ev_call (as := as) (r := r) hd rfl ?_ ?_ hl kk
  · have e : pmMem X (d + 1) M.1 M.2.1.name (.invokestatic idx) T v (as.reverse ++ r) = none := by
      show (match pmMath2 M.1 idx (as.reverse ++ r) with | some q => _ | none => _) = _
      have e1 : pmMath2 M.1 idx (as.reverse ++ r) = none := by
        unfold pmMath2; rw [h1]; dsimp only; rw [h2]
      rw [e1]
      show (pmCopy M.1 idx T v (as.reverse ++ r)).map _ = _
      have e2 : pmCopy M.1 idx T v (as.reverse ++ r) = none := by
        unfold pmCopy; rw [h3]
      rw [e2]; rfl
    exact pmStep_none rfl rfl rfl e rfl
  · have e1 : (as.reverse ++ r).take as.length = as.reverse := List.take_left' List.length_reverse
    have e2 : (as.reverse ++ r).drop as.length = r := List.drop_left' List.length_reverse
    show (match pmAt pmStL (M.1, idx) with | some (_, k, j, _) => _ | none => _) = _
    rw [hf]
    dsimp only
    rw [e1, e2, if_pos ⟨by simp, hn⟩, hj]
    simp
theorem ev_callV {X : pmX} {d : Nat} {M : pmM} {ls : List Value} {T : pmT} {v : pmV} {P : Option Value → pmT → pmV → Prop} (pc : Nat) {idx a ci kd k j h0 : Nat} {C : pmM} {hh : List Nat} {cs : List (Nat × Nat × Nat × List Nat)} {as r L0 : List Value} (hd : decode M.2.2.1 pc = .ok (.invokevirtual idx, 3)) (hf : pmAt pmVtL (M.1, idx) = some (k, cs)) (hkd : pmKind T a = ci) (hc : pmAt cs ci = some (kd, j, hh)) (hj : pmLs[j]? = some (C, h0)) (hk : as.length = k) (hn : pmNum r ≤ 8) (hl : (pmArgs (.ref a :: as)).length ≤ C.2.2.2.1) (hp : pmPad C.2.2.2.1 (pmArgs (.ref a :: as)) = L0)
    (kk : EvP X d C 0 L0 [] T v (fun o T' v' => EvP X (d + 1) M (pc + 3) ls (pmPush o r) T' v' P)) : EvP X (d + 1) M pc ls (as.reverse ++ .ref a :: r) T v P := by
  subst hk; subst hp
  refine ev_call (as := .ref a :: as) (r := r) hd rfl rfl ?_ hl kk
  have e1 : (as.reverse ++ .ref a :: r).take as.length = as.reverse := List.take_left' List.length_reverse
  have e2 : (as.reverse ++ .ref a :: r).drop as.length = .ref a :: r := List.drop_left' List.length_reverse
  show (match pmAt pmVtL (M.1, idx) with | some (k, cs) => _ | none => _) = _
  rw [hf]
  dsimp only
  rw [e1, e2]
  dsimp only
  rw [hkd, hc]
  dsimp only
  rw [if_pos ⟨by simp, hn⟩, hj]
  simp
theorem ev_callI {X : pmX} {d : Nat} {M : pmM} {ls : List Value} {T : pmT} {v : pmV} {P : Option Value → pmT → pmV → Prop} (pc : Nat) {idx a ci kd k j h0 : Nat} {C : pmM} {hh : List Nat} {as r L0 : List Value} (hd : decode M.2.2.1 pc = .ok (.invokespecial idx, 3)) (ho : pmAt pmObL (M.1, idx) = none) (hf : pmAt pmSpL (M.1, idx) = some (kd, k, j, hh)) (hkd : pmKind T a = ci) (hci : ci < 13) (hj : pmLs[j]? = some (C, h0)) (hk : as.length = k) (hn : pmNum r ≤ 8) (hl : (pmArgs (.ref a :: as)).length ≤ C.2.2.2.1) (hp : pmPad C.2.2.2.1 (pmArgs (.ref a :: as)) = L0)
    (kk : EvP X d C 0 L0 [] T v (fun o T' v' => EvP X (d + 1) M (pc + 3) ls (pmPush o r) T' v' P)) : EvP X (d + 1) M pc ls (as.reverse ++ .ref a :: r) T v P := by
  subst hk; subst hp
  have ha := (pmKind_spec hkd hci).1
  refine ev_call (as := .ref a :: as) (r := r) hd rfl ?_ ?_ hl kk
  · have e : pmMem X (d + 1) M.1 M.2.1.name (.invokespecial idx) T v (as.reverse ++ .ref a :: r) = none := by
      show (match pmAt pmObL (M.1, idx) with | some _ => _ | none => _) = _
      rw [ho]
    exact pmStep_none rfl rfl rfl e rfl
  · have e1 : (as.reverse ++ .ref a :: r).take as.length = as.reverse := List.take_left' List.length_reverse
    have e2 : (as.reverse ++ .ref a :: r).drop as.length = .ref a :: r := List.drop_left' List.length_reverse
    show (match pmAt pmSpL (M.1, idx) with | some (_, k, j, _) => _ | none => _) = _
    rw [hf]
    dsimp only
    rw [e1, e2]
    dsimp only
    rw [if_pos ⟨ha, by rw [hkd]; exact hci, by simp, hn⟩, hj]
    simp
theorem ev_cst {X : pmX} {d : Nat} {M : pmM} {ls st : List Value} {T : pmT} {v : pmV} {P : Option Value → pmT → pmV → Prop} {pc : Nat} {x y : Int32} (h : x = y) (k : EvP X d M pc ls (.int y :: st) T v P) : EvP X d M pc ls (.int x :: st) T v P := h ▸ k
theorem pl_0 : pmLs[0]? = some (MX0_init, 589) := rfl
theorem pl_1 : pmLs[1]? = some (MX0_takesBusesAlone, 836) := rfl
theorem pl_2 : pmLs[2]? = some (MX1_init, 208) := rfl
theorem pl_3 : pmLs[3]? = some (MX1_ready, 762) := rfl
theorem pl_4 : pmLs[4]? = some (MX1_tellPlan, 770) := rfl
theorem pl_5 : pmLs[5]? = some (MX1_pass, 777) := rfl
theorem pl_6 : pmLs[6]? = some (MX1_firstFaultOfPlan, 897) := rfl
theorem pl_7 : pmLs[7]? = some (MX1_waysAsBits, 857) := rfl
theorem pl_8 : pmLs[8]? = some (MX1_begin, 781) := rfl
theorem pl_9 : pmLs[9]? = some (MX1_arrive, 785) := rfl
theorem pl_10 : pmLs[10]? = some (MX1_turn, 818) := rfl
theorem pl_11 : pmLs[11]? = some (MX1_laneByRule, 808) := rfl
theorem pl_12 : pmLs[12]? = some (MX1_canTurn, 812) := rfl
theorem pl_13 : pmLs[13]? = some (MX1_carryAll, 823) := rfl
theorem pl_14 : pmLs[14]? = some (MX1_take, 845) := rfl
theorem pl_15 : pmLs[15]? = some (MX1_painOf, 849) := rfl
theorem pl_16 : pmLs[16]? = some (MX1_value, 790) := rfl
theorem pl_17 : pmLs[17]? = some (MX1_within, 803) := rfl
theorem pl_18 : pmLs[18]? = some (MX2_init, 619) := rfl
theorem pl_19 : pmLs[19]? = some (MX2_mayTurn, 700) := rfl
theorem pl_20 : pmLs[20]? = some (MX3_init, 569) := rfl
theorem pl_21 : pmLs[21]? = some (MX3_carries, 728) := rfl
theorem pl_22 : pmLs[22]? = some (MX3_takesBusesAlone, 841) := rfl
theorem pl_23 : pmLs[23]? = some (MX3_mayTurn, 706) := rfl
theorem pl_24 : pmLs[24]? = some (MX3_rests, 692) := rfl
theorem pl_25 : pmLs[25]? = some (MX4_init, 156) := rfl
theorem pl_26 : pmLs[26]? = some (MX4_lay, 302) := rfl
theorem pl_27 : pmLs[27]? = some (MX4_append, 354) := rfl
theorem pl_28 : pmLs[28]? = some (MX4_read, 358) := rfl
theorem pl_29 : pmLs[29]? = some (MX4_split, 362) := rfl
theorem pl_30 : pmLs[30]? = some (MX4_endOfToken, 366) := rfl
theorem pl_31 : pmLs[31]? = some (MX4_isOneWord, 369) := rfl
theorem pl_32 : pmLs[32]? = some (MX4_takeToken, 382) := rfl
theorem pl_33 : pmLs[33]? = some (MX4_takeWord, 386) := rfl
theorem pl_34 : pmLs[34]? = some (MX4_takeNumber, 409) := rfl
theorem pl_35 : pmLs[35]? = some (MX4_isWord, 405) := rfl
theorem pl_36 : pmLs[36]? = some (MX4_wordOf, 389) := rfl
theorem pl_37 : pmLs[37]? = some (MX4_isBlank, 378) := rfl
theorem pl_38 : pmLs[38]? = some (MX4_isLetter, 372) := rfl
theorem pl_39 : pmLs[39]? = some (MX4_isDigit, 375) := rfl
theorem pl_40 : pmLs[40]? = some (MX4_isSign, 412) := rfl
theorem pl_41 : pmLs[41]? = some (MX4_readPart, 476) := rfl
theorem pl_42 : pmLs[42]? = some (MX4_readOr, 488) := rfl
theorem pl_43 : pmLs[43]? = some (MX4_readAnd, 492) := rfl
theorem pl_44 : pmLs[44]? = some (MX4_readNot, 496) := rfl
theorem pl_45 : pmLs[45]? = some (MX4_readCompared, 500) := rfl
theorem pl_46 : pmLs[46]? = some (MX4_readSum, 504) := rfl
theorem pl_47 : pmLs[47]? = some (MX4_readTerm, 508) := rfl
theorem pl_48 : pmLs[48]? = some (MX4_readOne, 512) := rfl
theorem pl_49 : pmLs[49]? = some (MX4_token, 484) := rfl
theorem pl_50 : pmLs[50]? = some (MX4_pass, 480) := rfl
theorem pl_51 : pmLs[51]? = some (MX4_put, 516) := rfl
theorem pl_52 : pmLs[52]? = some (MX5_init, 115) := rfl
theorem pl_53 : pmLs[53]? = some (MX5_become, 905) := rfl
theorem pl_54 : pmLs[54]? = some (MX5_stops, 827) := rfl
theorem pl_55 : pmLs[55]? = some (MX5_allComers, 924) := rfl
theorem pl_56 : pmLs[56]? = some (MX6_init, 283) := rfl
theorem pl_57 : pmLs[57]? = some (MX6_isMissing, 653) := rfl
theorem pl_58 : pmLs[58]? = some (MX6_lay, 933) := rfl
theorem pl_59 : pmLs[59]? = some (MX6_has, 657) := rfl
theorem pl_60 : pmLs[60]? = some (MX6_hasAll, 950) := rfl
theorem pl_61 : pmLs[61]? = some (MX6_at, 661) := rfl
theorem pl_62 : pmLs[62]? = some (MX6_put, 942) := rfl
theorem pl_63 : pmLs[63]? = some (MX7_init, 599) := rfl
theorem pl_64 : pmLs[64]? = some (MX7_carries, 715) := rfl
theorem pl_65 : pmLs[65]? = some (MX8_init, 609) := rfl
theorem pl_66 : pmLs[66]? = some (MX8_carries, 722) := rfl
theorem pl_67 : pmLs[67]? = some (MX8_mayTurn, 704) := rfl
theorem pl_68 : pmLs[68]? = some (MX8_rests, 687) := rfl
theorem pl_69 : pmLs[69]? = some (MX9_init, 162) := rfl
theorem pl_70 : pmLs[70]? = some (MX9_value, 794) := rfl
theorem pl_71 : pmLs[71]? = some (MX9_ofOne, 797) := rfl
theorem pl_72 : pmLs[72]? = some (MX9_ofTwo, 800) := rfl
theorem pl_73 : pmLs[73]? = some (MX10_init, 566) := rfl
theorem pl_74 : pmLs[74]? = some (MX10_carries, 718) := rfl
theorem pl_75 : pmLs[75]? = some (MX10_rests, 683) := rfl
theorem pl_76 : pmLs[76]? = some (MX11_init, 105) := rfl
theorem pl_77 : pmLs[77]? = some (MX11_lane, 555) := rfl
theorem pl_78 : pmLs[78]? = some (MX11_set, 634) := rfl
theorem pl_79 : pmLs[79]? = some (MX11_come, 645) := rfl
theorem pl_80 : pmLs[80]? = some (MX11_stop, 666) := rfl
theorem pl_81 : pmLs[81]? = some (MX11_told, 674) := rfl
theorem pl_82 : pmLs[82]? = some (MX11_feed, 732) := rfl
theorem pl_83 : pmLs[83]? = some (MX11_text, 737) := rfl
theorem pl_84 : pmLs[84]? = some (MX11_force, 741) := rfl
theorem pl_85 : pmLs[85]? = some (MX11_waited, 745) := rfl
theorem pl_86 : pmLs[86]? = some (MX11_day, 853) := rfl
theorem pl_87 : pmLs[87]? = some (MX11_best, 861) := rfl
theorem pl_88 : pmLs[88]? = some (MX11_two, 870) := rfl
theorem pl_89 : pmLs[89]? = some (MX11_enough, 885) := rfl
theorem pl_90 : pmLs[90]? = some (MX11_worth, 889) := rfl
theorem pl_91 : pmLs[91]? = some (MX11_judge, 893) := rfl
theorem pl_92 : pmLs[92]? = some (MX11_image, 901) := rfl
theorem pl_93 : pmLs[93]? = some (MX11_back, 912) := rfl
theorem pl_94 : pmLs[94]? = some (MX11_count, 916) := rfl
theorem pl_95 : pmLs[95]? = some (MX11_sheet, 929) := rfl
theorem pl_96 : pmLs[96]? = some (MX11_cell, 938) := rfl
theorem pl_97 : pmLs[97]? = some (MX11_copy, 946) := rfl
theorem pl_98 : pmLs[98]? = some (MX11_lanes, 955) := rfl
theorem pl_99 : pmLs[99]? = some (MX11_taken, 960) := rfl
theorem pl_100 : pmLs[100]? = some (MX11_isIn, 558) := rfl
theorem pl_101 : pmLs[101]? = some (MX11_placeOf, 641) := rfl
theorem pl_102 : pmLs[102]? = some (MX11_newLane, 561) := rfl
theorem pl_103 : pmLs[103]? = some (MX11_isOfKind, 963) := rfl
theorem pl_104 : pmLs[104]? = some (MX11_laneOf, 670) := rfl
theorem pl_105 : pmLs[105]? = some (MX11_sheetOf, 649) := rfl
theorem pl_106 : pmLs[106]? = some (MX11_setEmpty, 638) := rfl
theorem pl_107 : pmLs[107]? = some (MX11_homeLanes, 920) := rfl
theorem pl_108 : pmLs[108]? = some (MX11_lacksPlan, 749) := rfl
theorem pl_109 : pmLs[109]? = some (MX11_readyCourse, 758) := rfl
theorem pl_110 : pmLs[110]? = some (MX11_passBy, 754) := rfl
theorem pl_111 : pmLs[111]? = some (MX11_tryOne, 866) := rfl
theorem pl_112 : pmLs[112]? = some (MX11_goesAndReturns, 877) := rfl
theorem pl_113 : pmLs[113]? = some (MX11_tryTwo, 881) := rfl
theorem pl_114 : pmLs[114]? = some (MX12_in, 976) := rfl
theorem pl_115 : pmLs[115]? = some (MX12_min, 1315) := rfl
theorem pl_116 : pmLs[116]? = some (MX12_isLane, 1000) := rfl
theorem pl_117 : pmLs[117]? = some (MX12_isMinute, 1004) := rfl
theorem pl_118 : pmLs[118]? = some (MX12_isNew, 972) := rfl
theorem pl_119 : pmLs[119]? = some (MX12_comesLane, 980) := rfl
theorem pl_120 : pmLs[120]? = some (MX12_lane, 967) := rfl
theorem pl_121 : pmLs[121]? = some (MX12_set, 984) := rfl
theorem pl_122 : pmLs[122]? = some (MX12_come, 988) := rfl
theorem pl_123 : pmLs[123]? = some (MX12_stop, 996) := rfl
theorem pl_124 : pmLs[124]? = some (MX12_carries, 1020) := rfl
theorem pl_125 : pmLs[125]? = some (MX12_mayTurn, 1016) := rfl
theorem pl_126 : pmLs[126]? = some (MX12_restsOf, 1012) := rfl
theorem pl_127 : pmLs[127]? = some (MX12_told, 1008) := rfl
theorem pl_128 : pmLs[128]? = some (MX12_init, 1024) := rfl
theorem pl_129 : pmLs[129]? = some (MX12_feed, 1193) := rfl
theorem pl_130 : pmLs[130]? = some (MX12_byteAt, 1206) := rfl
theorem pl_131 : pmLs[131]? = some (MX12_isLetter, 1214) := rfl
theorem pl_132 : pmLs[132]? = some (MX12_isDigit, 1210) := rfl
theorem pl_133 : pmLs[133]? = some (MX12_look, 1202) := rfl
theorem pl_134 : pmLs[134]? = some (MX12_goOn, 1242) := rfl
theorem pl_135 : pmLs[135]? = some (MX12_isWord, 1238) := rfl
theorem pl_136 : pmLs[136]? = some (MX12_isKey, 1227) := rfl
theorem pl_137 : pmLs[137]? = some (MX12_nameOf, 1218) := rfl
theorem pl_138 : pmLs[138]? = some (MX12_put, 1029) := rfl
theorem pl_139 : pmLs[139]? = some (MX12_top, 1254) := rfl
theorem pl_140 : pmLs[140]? = some (MX12_pushSign, 1270) := rfl
theorem pl_141 : pmLs[141]? = some (MX12_strength, 1258) := rfl
theorem pl_142 : pmLs[142]? = some (MX12_settle, 1250) := rfl
theorem pl_143 : pmLs[143]? = some (MX12_opens, 1266) := rfl
theorem pl_144 : pmLs[144]? = some (MX12_takesOne, 1262) := rfl
theorem pl_145 : pmLs[145]? = some (MX12_takesSign, 1274) := rfl
theorem pl_146 : pmLs[146]? = some (MX12_takesE, 1246) := rfl
theorem pl_147 : pmLs[147]? = some (MX12_takesPart, 1234) := rfl
theorem pl_148 : pmLs[148]? = some (MX12_text, 1198) := rfl
theorem pl_149 : pmLs[149]? = some (MX12_force, 1278) := rfl
theorem pl_150 : pmLs[150]? = some (MX12_done, 1311) := rfl
theorem pl_151 : pmLs[151]? = some (MX12_tellsRule, 1307) := rfl
theorem pl_152 : pmLs[152]? = some (MX12_comeAll, 1303) := rfl
theorem pl_153 : pmLs[153]? = some (MX12_lastOf, 1327) := rfl
theorem pl_154 : pmLs[154]? = some (MX12_byRule, 1323) := rfl
theorem pl_155 : pmLs[155]? = some (MX12_toldLane, 1319) := rfl
theorem pl_156 : pmLs[156]? = some (MX12_turnsNow, 1331) := rfl
theorem pl_157 : pmLs[157]? = some (MX12_take, 1339) := rfl
theorem pl_158 : pmLs[158]? = some (MX12_leads, 1335) := rfl
theorem pl_159 : pmLs[159]? = some (MX12_goMinute, 1299) := rfl
theorem pl_160 : pmLs[160]? = some (MX12_go, 1295) := rfl
theorem pl_161 : pmLs[161]? = some (MX12_isDay, 1286) := rfl
theorem pl_162 : pmLs[162]? = some (MX12_lacks, 1290) := rfl
theorem pl_163 : pmLs[163]? = some (MX12_waited, 1282) := rfl
theorem pl_164 : pmLs[164]? = some (MX12_day, 1343) := rfl
theorem pl_165 : pmLs[165]? = some (MX12_trial, 1351) := rfl
theorem pl_166 : pmLs[166]? = some (MX12_best, 1347) := rfl
theorem pl_167 : pmLs[167]? = some (MX12_two, 1355) := rfl
theorem pl_168 : pmLs[168]? = some (MX12_enough, 1360) := rfl
theorem pl_169 : pmLs[169]? = some (MX12_worth, 1364) := rfl
theorem pl_170 : pmLs[170]? = some (MX12_judge, 1368) := rfl
theorem pl_171 : pmLs[171]? = some (MX12_image, 1372) := rfl
theorem pl_172 : pmLs[172]? = some (MX12_back, 1376) := rfl
theorem pl_173 : pmLs[173]? = some (MX12_allComers, 1384) := rfl
theorem pl_174 : pmLs[174]? = some (MX12_count, 1380) := rfl
theorem pl_175 : pmLs[175]? = some (MX12_isSheet, 992) := rfl
theorem pl_176 : pmLs[176]? = some (MX12_sheet, 1388) := rfl
theorem pl_177 : pmLs[177]? = some (MX12_cell, 1392) := rfl
theorem pl_178 : pmLs[178]? = some (MX12_copy, 1396) := rfl
theorem pl_179 : pmLs[179]? = some (MX12_lanes, 1400) := rfl
theorem pl_180 : pmLs[180]? = some (MX12_taken, 1404) := rfl
theorem pl_181 : pmLs[181]? = some (MJ0_length_8abf5, 306) := rfl
theorem pl_182 : pmLs[182]? = some (MJ0_charAt_5068e, 316) := rfl
theorem pl_183 : pmLs[183]? = some (MJ0_indexOf_0f7a4, 417) := rfl
theorem pl_184 : pmLs[184]? = some (MJ0_indexOf_7cf53, 421) := rfl
theorem pl_185 : pmLs[185]? = some (MJ0_coder_7d493, 310) := rfl
theorem pl_186 : pmLs[186]? = some (MJ0_isLatin1_aae02, 320) := rfl
theorem pl_187 : pmLs[187]? = some (MJ0_checkIndex_df160, 326) := rfl
theorem pl_188 : pmLs[188]? = some (MJ1_charAt_3b067, 323) := rfl
theorem pl_189 : pmLs[189]? = some (MJ1_canEncode_9a6ad, 428) := rfl
theorem pl_190 : pmLs[190]? = some (MJ1_indexOf_4cfef, 425) := rfl
theorem pl_191 : pmLs[191]? = some (MJ1_indexOfChar_4cfef, 437) := rfl
theorem pl_192 : pmLs[192]? = some (MJ7_fill_d0a16, 873) := rfl
theorem pl_193 : pmLs[193]? = some (MJ7_fill_53178, 766) := rfl
theorem pl_194 : pmLs[194]? = some (MJ3_checkIndex_8e157, 331) := rfl
theorem na_1_9 : ∃ c h, pmAt pmAnwL (1, 9) = some (22, c, h) := ⟨_, _, rfl⟩
theorem na_11_9 : ∃ c h, pmAt pmAnwL (11, 9) = some (22, c, h) := ⟨_, _, rfl⟩
theorem na_11_25 : ∃ c h, pmAt pmAnwL (11, 25) = some (23, c, h) := ⟨_, _, rfl⟩
theorem na_11_38 : ∃ c h, pmAt pmAnwL (11, 38) = some (24, c, h) := ⟨_, _, rfl⟩
theorem gf_1_11 {X : pmX} {d : Nat} {M : pmM} {ls st : List Value} {T : pmT} {v : pmV} {P : Option Value → pmT → pmV → Prop} {pc : Nat} {a x : Nat} (hM : M.1 = 1) (hd : decode M.2.2.1 pc = .ok (.getfield 11, 3)) (hk : pmKind T a = 1) (hx : v.2.2 a 0 = some x) (k : EvP X d M (pc + 3) ls (.ref x :: st) T v P) : EvP X d M pc ls (.ref a :: st) T v P :=
  ev_getf (k0 := 0) (ci := 1) pc hd (by rw [hM]; exact rfl) hk (by decide) (pm_rf hx) k
theorem gf_1_20 {X : pmX} {d : Nat} {M : pmM} {ls st : List Value} {T : pmT} {v : pmV} {P : Option Value → pmT → pmV → Prop} {pc : Nat} {a x : Nat} (hM : M.1 = 1) (hd : decode M.2.2.1 pc = .ok (.getfield 20, 3)) (hk : pmKind T a = 1) (hx : v.2.2 a 2 = some x) (k : EvP X d M (pc + 3) ls (.ref x :: st) T v P) : EvP X d M pc ls (.ref a :: st) T v P :=
  ev_getf (k0 := 2) (ci := 1) pc hd (by rw [hM]; exact rfl) hk (by decide) (pm_rf hx) k
theorem gf_1_27 {X : pmX} {d : Nat} {M : pmM} {ls st : List Value} {T : pmT} {v : pmV} {P : Option Value → pmT → pmV → Prop} {pc : Nat} {a x : Nat} (hM : M.1 = 1) (hd : decode M.2.2.1 pc = .ok (.getfield 27, 3)) (hk : pmKind T a = 1) (hx : v.2.2 a 3 = some x) (k : EvP X d M (pc + 3) ls (.ref x :: st) T v P) : EvP X d M pc ls (.ref a :: st) T v P :=
  ev_getf (k0 := 3) (ci := 1) pc hd (by rw [hM]; exact rfl) hk (by decide) (pm_rf hx) k
theorem gf_1_31 {X : pmX} {d : Nat} {M : pmM} {ls st : List Value} {T : pmT} {v : pmV} {P : Option Value → pmT → pmV → Prop} {pc : Nat} {a x : Nat} (hM : M.1 = 1) (hd : decode M.2.2.1 pc = .ok (.getfield 31, 3)) (hk : pmKind T a = 1) (hx : v.2.2 a 4 = some x) (k : EvP X d M (pc + 3) ls (.ref x :: st) T v P) : EvP X d M pc ls (.ref a :: st) T v P :=
  ev_getf (k0 := 4) (ci := 1) pc hd (by rw [hM]; exact rfl) hk (by decide) (pm_rf hx) k
theorem gf_1_35 {X : pmX} {d : Nat} {M : pmM} {ls st : List Value} {T : pmT} {v : pmV} {P : Option Value → pmT → pmV → Prop} {pc : Nat} {a x : Nat} (hM : M.1 = 1) (hd : decode M.2.2.1 pc = .ok (.getfield 35, 3)) (hk : pmKind T a = 1) (hx : v.2.2 a 9 = some x) (k : EvP X d M (pc + 3) ls (.ref x :: st) T v P) : EvP X d M pc ls (.ref a :: st) T v P :=
  ev_getf (k0 := 9) (ci := 1) pc hd (by rw [hM]; exact rfl) hk (by decide) (pm_rf hx) k
theorem gf_1_38 {X : pmX} {d : Nat} {M : pmM} {ls st : List Value} {T : pmT} {v : pmV} {P : Option Value → pmT → pmV → Prop} {pc : Nat} {a x : Nat} (hM : M.1 = 1) (hd : decode M.2.2.1 pc = .ok (.getfield 38, 3)) (hk : pmKind T a = 1) (hx : v.2.2 a 10 = some x) (k : EvP X d M (pc + 3) ls (.ref x :: st) T v P) : EvP X d M pc ls (.ref a :: st) T v P :=
  ev_getf (k0 := 10) (ci := 1) pc hd (by rw [hM]; exact rfl) hk (by decide) (pm_rf hx) k
theorem gf_1_41 {X : pmX} {d : Nat} {M : pmM} {ls st : List Value} {T : pmT} {v : pmV} {P : Option Value → pmT → pmV → Prop} {pc : Nat} {a x : Nat} (hM : M.1 = 1) (hd : decode M.2.2.1 pc = .ok (.getfield 41, 3)) (hk : pmKind T a = 1) (hx : v.2.2 a 11 = some x) (k : EvP X d M (pc + 3) ls (.ref x :: st) T v P) : EvP X d M pc ls (.ref a :: st) T v P :=
  ev_getf (k0 := 11) (ci := 1) pc hd (by rw [hM]; exact rfl) hk (by decide) (pm_rf hx) k
theorem gf_1_44 {X : pmX} {d : Nat} {M : pmM} {ls st : List Value} {T : pmT} {v : pmV} {P : Option Value → pmT → pmV → Prop} {pc : Nat} {a x : Nat} (hM : M.1 = 1) (hd : decode M.2.2.1 pc = .ok (.getfield 44, 3)) (hk : pmKind T a = 1) (hx : v.2.2 a 12 = some x) (k : EvP X d M (pc + 3) ls (.ref x :: st) T v P) : EvP X d M pc ls (.ref a :: st) T v P :=
  ev_getf (k0 := 12) (ci := 1) pc hd (by rw [hM]; exact rfl) hk (by decide) (pm_rf hx) k
theorem gf_1_47 {X : pmX} {d : Nat} {M : pmM} {ls st : List Value} {T : pmT} {v : pmV} {P : Option Value → pmT → pmV → Prop} {pc : Nat} {a x : Nat} (hM : M.1 = 1) (hd : decode M.2.2.1 pc = .ok (.getfield 47, 3)) (hk : pmKind T a = 1) (hx : v.2.2 a 13 = some x) (k : EvP X d M (pc + 3) ls (.ref x :: st) T v P) : EvP X d M pc ls (.ref a :: st) T v P :=
  ev_getf (k0 := 13) (ci := 1) pc hd (by rw [hM]; exact rfl) hk (by decide) (pm_rf hx) k
theorem gf_1_52 {X : pmX} {d : Nat} {M : pmM} {ls st : List Value} {T : pmT} {v : pmV} {P : Option Value → pmT → pmV → Prop} {pc : Nat} {a x : Nat} (hM : M.1 = 1) (hd : decode M.2.2.1 pc = .ok (.getfield 52, 3)) (hk : pmKind T a = 1) (hx : v.2.2 a 14 = some x) (k : EvP X d M (pc + 3) ls (.ref x :: st) T v P) : EvP X d M pc ls (.ref a :: st) T v P :=
  ev_getf (k0 := 14) (ci := 1) pc hd (by rw [hM]; exact rfl) hk (by decide) (pm_rf hx) k
theorem gf_1_61 {X : pmX} {d : Nat} {M : pmM} {ls st : List Value} {T : pmT} {v : pmV} {P : Option Value → pmT → pmV → Prop} {pc : Nat} {a : Nat} {x : Int32} (hM : M.1 = 1) (hd : decode M.2.2.1 pc = .ok (.getfield 61, 3)) (hk : pmKind T a = 1) (hx : v.1 a 1 = x) (k : EvP X d M (pc + 3) ls (.int x :: st) T v P) : EvP X d M pc ls (.ref a :: st) T v P :=
  ev_getf (k0 := 1) (ci := 1) pc hd (by rw [hM]; exact rfl) hk (by decide) (congrArg Value.int hx) k
theorem gf_1_71 {X : pmX} {d : Nat} {M : pmM} {ls st : List Value} {T : pmT} {v : pmV} {P : Option Value → pmT → pmV → Prop} {pc : Nat} {a : Nat} {x : Int32} (hM : M.1 = 1) (hd : decode M.2.2.1 pc = .ok (.getfield 71, 3)) (hk : pmKind T a = 1) (hx : v.1 a 5 = x) (k : EvP X d M (pc + 3) ls (.int x :: st) T v P) : EvP X d M pc ls (.ref a :: st) T v P :=
  ev_getf (k0 := 5) (ci := 1) pc hd (by rw [hM]; exact rfl) hk (by decide) (congrArg Value.int hx) k
theorem gf_1_75 {X : pmX} {d : Nat} {M : pmM} {ls st : List Value} {T : pmT} {v : pmV} {P : Option Value → pmT → pmV → Prop} {pc : Nat} {a : Nat} {x : Int32} (hM : M.1 = 1) (hd : decode M.2.2.1 pc = .ok (.getfield 75, 3)) (hk : pmKind T a = 1) (hx : v.1 a 6 = x) (k : EvP X d M (pc + 3) ls (.int x :: st) T v P) : EvP X d M pc ls (.ref a :: st) T v P :=
  ev_getf (k0 := 6) (ci := 1) pc hd (by rw [hM]; exact rfl) hk (by decide) (congrArg Value.int hx) k
theorem gf_1_78 {X : pmX} {d : Nat} {M : pmM} {ls st : List Value} {T : pmT} {v : pmV} {P : Option Value → pmT → pmV → Prop} {pc : Nat} {a : Nat} {x : Int32} (hM : M.1 = 1) (hd : decode M.2.2.1 pc = .ok (.getfield 78, 3)) (hk : pmKind T a = 1) (hx : v.1 a 7 = x) (k : EvP X d M (pc + 3) ls (.int x :: st) T v P) : EvP X d M pc ls (.ref a :: st) T v P :=
  ev_getf (k0 := 7) (ci := 1) pc hd (by rw [hM]; exact rfl) hk (by decide) (congrArg Value.int hx) k
theorem gf_1_81 {X : pmX} {d : Nat} {M : pmM} {ls st : List Value} {T : pmT} {v : pmV} {P : Option Value → pmT → pmV → Prop} {pc : Nat} {a : Nat} {x : Int32} (hM : M.1 = 1) (hd : decode M.2.2.1 pc = .ok (.getfield 81, 3)) (hk : pmKind T a = 1) (hx : v.1 a 8 = x) (k : EvP X d M (pc + 3) ls (.int x :: st) T v P) : EvP X d M pc ls (.ref a :: st) T v P :=
  ev_getf (k0 := 8) (ci := 1) pc hd (by rw [hM]; exact rfl) hk (by decide) (congrArg Value.int hx) k
theorem gf_1_97 {X : pmX} {d : Nat} {M : pmM} {ls st : List Value} {T : pmT} {v : pmV} {P : Option Value → pmT → pmV → Prop} {pc : Nat} {a : Nat} {x : Int64} (hM : M.1 = 1) (hd : decode M.2.2.1 pc = .ok (.getfield 97, 3)) (hk : pmKind T a = 1) (hx : v.2.1 a 15 = x) (k : EvP X d M (pc + 3) ls (.long x :: st) T v P) : EvP X d M pc ls (.ref a :: st) T v P :=
  ev_getf (k0 := 15) (ci := 1) pc hd (by rw [hM]; exact rfl) hk (by decide) (congrArg Value.long hx) k
theorem gl_1_126 {X : pmX} {d : Nat} {M : pmM} {ls st : List Value} {T : pmT} {v : pmV} {P : Option Value → pmT → pmV → Prop} {pc : Nat} {a ci : Nat} (hM : M.1 = 1) (hd : decode M.2.2.1 pc = .ok (.getfield 126, 3)) (hk : pmKind T a = ci) (hc : ci ∈ [0, 2, 3, 7, 8, 10]) (k : EvP X d M (pc + 3) ls (.int (v.1 a 2) :: st) T v P) : EvP X d M pc ls (.ref a :: st) T v P :=
  ev_getf (k0 := 2) pc hd (by rw [hM]; exact rfl) hk hc (by simp only [List.mem_cons, List.not_mem_nil, or_false] at hc; rcases hc with rfl | rfl | rfl | rfl | rfl | rfl <;> rfl) k
theorem gf_1_129 {X : pmX} {d : Nat} {M : pmM} {ls st : List Value} {T : pmT} {v : pmV} {P : Option Value → pmT → pmV → Prop} {pc : Nat} {a : Nat} {x : Int32} (hM : M.1 = 1) (hd : decode M.2.2.1 pc = .ok (.getfield 129, 3)) (hk : pmKind T a = 1) (hx : v.1 a 16 = x) (k : EvP X d M (pc + 3) ls (.int x :: st) T v P) : EvP X d M pc ls (.ref a :: st) T v P :=
  ev_getf (k0 := 16) (ci := 1) pc hd (by rw [hM]; exact rfl) hk (by decide) (congrArg Value.int hx) k
theorem gf_1_132 {X : pmX} {d : Nat} {M : pmM} {ls st : List Value} {T : pmT} {v : pmV} {P : Option Value → pmT → pmV → Prop} {pc : Nat} {a : Nat} {x : Int32} (hM : M.1 = 1) (hd : decode M.2.2.1 pc = .ok (.getfield 132, 3)) (hk : pmKind T a = 1) (hx : v.1 a 17 = x) (k : EvP X d M (pc + 3) ls (.int x :: st) T v P) : EvP X d M pc ls (.ref a :: st) T v P :=
  ev_getf (k0 := 17) (ci := 1) pc hd (by rw [hM]; exact rfl) hk (by decide) (congrArg Value.int hx) k
theorem gf_1_145 {X : pmX} {d : Nat} {M : pmM} {ls st : List Value} {T : pmT} {v : pmV} {P : Option Value → pmT → pmV → Prop} {pc : Nat} {a x : Nat} (hM : M.1 = 1) (hd : decode M.2.2.1 pc = .ok (.getfield 145, 3)) (hk : pmKind T a = 5) (hx : v.2.2 a 0 = some x) (k : EvP X d M (pc + 3) ls (.ref x :: st) T v P) : EvP X d M pc ls (.ref a :: st) T v P :=
  ev_getf (k0 := 0) (ci := 5) pc hd (by rw [hM]; exact rfl) hk (by decide) (pm_rf hx) k
theorem gf_1_151 {X : pmX} {d : Nat} {M : pmM} {ls st : List Value} {T : pmT} {v : pmV} {P : Option Value → pmT → pmV → Prop} {pc : Nat} {a x : Nat} (hM : M.1 = 1) (hd : decode M.2.2.1 pc = .ok (.getfield 151, 3)) (hk : pmKind T a = 5) (hx : v.2.2 a 1 = some x) (k : EvP X d M (pc + 3) ls (.ref x :: st) T v P) : EvP X d M pc ls (.ref a :: st) T v P :=
  ev_getf (k0 := 1) (ci := 5) pc hd (by rw [hM]; exact rfl) hk (by decide) (pm_rf hx) k
theorem gf_1_152 {X : pmX} {d : Nat} {M : pmM} {ls st : List Value} {T : pmT} {v : pmV} {P : Option Value → pmT → pmV → Prop} {pc : Nat} {a : Nat} {x : Int32} (hM : M.1 = 1) (hd : decode M.2.2.1 pc = .ok (.getfield 152, 3)) (hk : pmKind T a = 5) (hx : v.1 a 2 = x) (k : EvP X d M (pc + 3) ls (.int x :: st) T v P) : EvP X d M pc ls (.ref a :: st) T v P :=
  ev_getf (k0 := 2) (ci := 5) pc hd (by rw [hM]; exact rfl) hk (by decide) (congrArg Value.int hx) k
theorem gl_3_13 {X : pmX} {d : Nat} {M : pmM} {ls st : List Value} {T : pmT} {v : pmV} {P : Option Value → pmT → pmV → Prop} {pc : Nat} {a ci : Nat} (hM : M.1 = 3) (hd : decode M.2.2.1 pc = .ok (.getfield 13, 3)) (hk : pmKind T a = ci) (hc : ci ∈ [0, 2, 3, 7, 8, 10]) (k : EvP X d M (pc + 3) ls (.int (v.1 a 1) :: st) T v P) : EvP X d M pc ls (.ref a :: st) T v P :=
  ev_getf (k0 := 1) pc hd (by rw [hM]; exact rfl) hk hc (by simp only [List.mem_cons, List.not_mem_nil, or_false] at hc; rcases hc with rfl | rfl | rfl | rfl | rfl | rfl <;> rfl) k
theorem gf_4_9 {X : pmX} {d : Nat} {M : pmM} {ls st : List Value} {T : pmT} {v : pmV} {P : Option Value → pmT → pmV → Prop} {pc : Nat} {a x : Nat} (hM : M.1 = 4) (hd : decode M.2.2.1 pc = .ok (.getfield 9, 3)) (hk : pmKind T a = 4) (hx : v.2.2 a 0 = some x) (k : EvP X d M (pc + 3) ls (.ref x :: st) T v P) : EvP X d M pc ls (.ref a :: st) T v P :=
  ev_getf (k0 := 0) (ci := 4) pc hd (by rw [hM]; exact rfl) hk (by decide) (pm_rf hx) k
theorem gf_4_15 {X : pmX} {d : Nat} {M : pmM} {ls st : List Value} {T : pmT} {v : pmV} {P : Option Value → pmT → pmV → Prop} {pc : Nat} {a x : Nat} (hM : M.1 = 4) (hd : decode M.2.2.1 pc = .ok (.getfield 15, 3)) (hk : pmKind T a = 4) (hx : v.2.2 a 2 = some x) (k : EvP X d M (pc + 3) ls (.ref x :: st) T v P) : EvP X d M pc ls (.ref a :: st) T v P :=
  ev_getf (k0 := 2) (ci := 4) pc hd (by rw [hM]; exact rfl) hk (by decide) (pm_rf hx) k
theorem gf_4_18 {X : pmX} {d : Nat} {M : pmM} {ls st : List Value} {T : pmT} {v : pmV} {P : Option Value → pmT → pmV → Prop} {pc : Nat} {a x : Nat} (hM : M.1 = 4) (hd : decode M.2.2.1 pc = .ok (.getfield 18, 3)) (hk : pmKind T a = 4) (hx : v.2.2 a 3 = some x) (k : EvP X d M (pc + 3) ls (.ref x :: st) T v P) : EvP X d M pc ls (.ref a :: st) T v P :=
  ev_getf (k0 := 3) (ci := 4) pc hd (by rw [hM]; exact rfl) hk (by decide) (pm_rf hx) k
theorem gf_4_21 {X : pmX} {d : Nat} {M : pmM} {ls st : List Value} {T : pmT} {v : pmV} {P : Option Value → pmT → pmV → Prop} {pc : Nat} {a x : Nat} (hM : M.1 = 4) (hd : decode M.2.2.1 pc = .ok (.getfield 21, 3)) (hk : pmKind T a = 4) (hx : v.2.2 a 4 = some x) (k : EvP X d M (pc + 3) ls (.ref x :: st) T v P) : EvP X d M pc ls (.ref a :: st) T v P :=
  ev_getf (k0 := 4) (ci := 4) pc hd (by rw [hM]; exact rfl) hk (by decide) (pm_rf hx) k
theorem gf_4_27 {X : pmX} {d : Nat} {M : pmM} {ls st : List Value} {T : pmT} {v : pmV} {P : Option Value → pmT → pmV → Prop} {pc : Nat} {a x : Nat} (hM : M.1 = 4) (hd : decode M.2.2.1 pc = .ok (.getfield 27, 3)) (hk : pmKind T a = 4) (hx : v.2.2 a 6 = some x) (k : EvP X d M (pc + 3) ls (.ref x :: st) T v P) : EvP X d M pc ls (.ref a :: st) T v P :=
  ev_getf (k0 := 6) (ci := 4) pc hd (by rw [hM]; exact rfl) hk (by decide) (pm_rf hx) k
theorem gf_4_31 {X : pmX} {d : Nat} {M : pmM} {ls st : List Value} {T : pmT} {v : pmV} {P : Option Value → pmT → pmV → Prop} {pc : Nat} {a : Nat} {x : Int32} (hM : M.1 = 4) (hd : decode M.2.2.1 pc = .ok (.getfield 31, 3)) (hk : pmKind T a = 4) (hx : v.1 a 1 = x) (k : EvP X d M (pc + 3) ls (.int x :: st) T v P) : EvP X d M pc ls (.ref a :: st) T v P :=
  ev_getf (k0 := 1) (ci := 4) pc hd (by rw [hM]; exact rfl) hk (by decide) (congrArg Value.int hx) k
theorem gf_4_52 {X : pmX} {d : Nat} {M : pmM} {ls st : List Value} {T : pmT} {v : pmV} {P : Option Value → pmT → pmV → Prop} {pc : Nat} {a : Nat} {x : Int32} (hM : M.1 = 4) (hd : decode M.2.2.1 pc = .ok (.getfield 52, 3)) (hk : pmKind T a = 4) (hx : v.1 a 7 = x) (k : EvP X d M (pc + 3) ls (.int x :: st) T v P) : EvP X d M pc ls (.ref a :: st) T v P :=
  ev_getf (k0 := 7) (ci := 4) pc hd (by rw [hM]; exact rfl) hk (by decide) (congrArg Value.int hx) k
theorem gf_4_55 {X : pmX} {d : Nat} {M : pmM} {ls st : List Value} {T : pmT} {v : pmV} {P : Option Value → pmT → pmV → Prop} {pc : Nat} {a : Nat} {x : Int32} (hM : M.1 = 4) (hd : decode M.2.2.1 pc = .ok (.getfield 55, 3)) (hk : pmKind T a = 4) (hx : v.1 a 5 = x) (k : EvP X d M (pc + 3) ls (.int x :: st) T v P) : EvP X d M pc ls (.ref a :: st) T v P :=
  ev_getf (k0 := 5) (ci := 4) pc hd (by rw [hM]; exact rfl) hk (by decide) (congrArg Value.int hx) k
theorem gf_4_138 {X : pmX} {d : Nat} {M : pmM} {ls st : List Value} {T : pmT} {v : pmV} {P : Option Value → pmT → pmV → Prop} {pc : Nat} {a x : Nat} (hM : M.1 = 4) (hd : decode M.2.2.1 pc = .ok (.getfield 138, 3)) (hk : pmKind T a = 9) (hx : v.2.2 a 1 = some x) (k : EvP X d M (pc + 3) ls (.ref x :: st) T v P) : EvP X d M pc ls (.ref a :: st) T v P :=
  ev_getf (k0 := 1) (ci := 9) pc hd (by rw [hM]; exact rfl) hk (by decide) (pm_rf hx) k
theorem gf_4_162 {X : pmX} {d : Nat} {M : pmM} {ls st : List Value} {T : pmT} {v : pmV} {P : Option Value → pmT → pmV → Prop} {pc : Nat} {a x : Nat} (hM : M.1 = 4) (hd : decode M.2.2.1 pc = .ok (.getfield 162, 3)) (hk : pmKind T a = 9) (hx : v.2.2 a 0 = some x) (k : EvP X d M (pc + 3) ls (.ref x :: st) T v P) : EvP X d M pc ls (.ref a :: st) T v P :=
  ev_getf (k0 := 0) (ci := 9) pc hd (by rw [hM]; exact rfl) hk (by decide) (pm_rf hx) k
theorem gf_5_9 {X : pmX} {d : Nat} {M : pmM} {ls st : List Value} {T : pmT} {v : pmV} {P : Option Value → pmT → pmV → Prop} {pc : Nat} {a x : Nat} (hM : M.1 = 5) (hd : decode M.2.2.1 pc = .ok (.getfield 9, 3)) (hk : pmKind T a = 5) (hx : v.2.2 a 0 = some x) (k : EvP X d M (pc + 3) ls (.ref x :: st) T v P) : EvP X d M pc ls (.ref a :: st) T v P :=
  ev_getf (k0 := 0) (ci := 5) pc hd (by rw [hM]; exact rfl) hk (by decide) (pm_rf hx) k
theorem gf_5_15 {X : pmX} {d : Nat} {M : pmM} {ls st : List Value} {T : pmT} {v : pmV} {P : Option Value → pmT → pmV → Prop} {pc : Nat} {a x : Nat} (hM : M.1 = 5) (hd : decode M.2.2.1 pc = .ok (.getfield 15, 3)) (hk : pmKind T a = 5) (hx : v.2.2 a 1 = some x) (k : EvP X d M (pc + 3) ls (.ref x :: st) T v P) : EvP X d M pc ls (.ref a :: st) T v P :=
  ev_getf (k0 := 1) (ci := 5) pc hd (by rw [hM]; exact rfl) hk (by decide) (pm_rf hx) k
theorem gf_5_18 {X : pmX} {d : Nat} {M : pmM} {ls st : List Value} {T : pmT} {v : pmV} {P : Option Value → pmT → pmV → Prop} {pc : Nat} {a : Nat} {x : Int32} (hM : M.1 = 5) (hd : decode M.2.2.1 pc = .ok (.getfield 18, 3)) (hk : pmKind T a = 5) (hx : v.1 a 2 = x) (k : EvP X d M (pc + 3) ls (.int x :: st) T v P) : EvP X d M pc ls (.ref a :: st) T v P :=
  ev_getf (k0 := 2) (ci := 5) pc hd (by rw [hM]; exact rfl) hk (by decide) (congrArg Value.int hx) k
theorem gf_5_22 {X : pmX} {d : Nat} {M : pmM} {ls st : List Value} {T : pmT} {v : pmV} {P : Option Value → pmT → pmV → Prop} {pc : Nat} {a : Nat} {x : Int32} (hM : M.1 = 5) (hd : decode M.2.2.1 pc = .ok (.getfield 22, 3)) (hk : pmKind T a = 5) (hx : v.1 a 3 = x) (k : EvP X d M (pc + 3) ls (.int x :: st) T v P) : EvP X d M pc ls (.ref a :: st) T v P :=
  ev_getf (k0 := 3) (ci := 5) pc hd (by rw [hM]; exact rfl) hk (by decide) (congrArg Value.int hx) k
theorem gf_5_31 {X : pmX} {d : Nat} {M : pmM} {ls st : List Value} {T : pmT} {v : pmV} {P : Option Value → pmT → pmV → Prop} {pc : Nat} {a : Nat} {x : Int32} (hM : M.1 = 5) (hd : decode M.2.2.1 pc = .ok (.getfield 31, 3)) (hk : pmKind T a = 5) (hx : v.1 a 4 = x) (k : EvP X d M (pc + 3) ls (.int x :: st) T v P) : EvP X d M pc ls (.ref a :: st) T v P :=
  ev_getf (k0 := 4) (ci := 5) pc hd (by rw [hM]; exact rfl) hk (by decide) (congrArg Value.int hx) k
theorem gf_5_34 {X : pmX} {d : Nat} {M : pmM} {ls st : List Value} {T : pmT} {v : pmV} {P : Option Value → pmT → pmV → Prop} {pc : Nat} {a : Nat} {x : Int32} (hM : M.1 = 5) (hd : decode M.2.2.1 pc = .ok (.getfield 34, 3)) (hk : pmKind T a = 5) (hx : v.1 a 5 = x) (k : EvP X d M (pc + 3) ls (.int x :: st) T v P) : EvP X d M pc ls (.ref a :: st) T v P :=
  ev_getf (k0 := 5) (ci := 5) pc hd (by rw [hM]; exact rfl) hk (by decide) (congrArg Value.int hx) k
theorem gf_5_37 {X : pmX} {d : Nat} {M : pmM} {ls st : List Value} {T : pmT} {v : pmV} {P : Option Value → pmT → pmV → Prop} {pc : Nat} {a : Nat} {x : Int32} (hM : M.1 = 5) (hd : decode M.2.2.1 pc = .ok (.getfield 37, 3)) (hk : pmKind T a = 5) (hx : v.1 a 6 = x) (k : EvP X d M (pc + 3) ls (.int x :: st) T v P) : EvP X d M pc ls (.ref a :: st) T v P :=
  ev_getf (k0 := 6) (ci := 5) pc hd (by rw [hM]; exact rfl) hk (by decide) (congrArg Value.int hx) k
theorem gf_6_9 {X : pmX} {d : Nat} {M : pmM} {ls st : List Value} {T : pmT} {v : pmV} {P : Option Value → pmT → pmV → Prop} {pc : Nat} {a : Nat} {x : Int32} (hM : M.1 = 6) (hd : decode M.2.2.1 pc = .ok (.getfield 9, 3)) (hk : pmKind T a = 6) (hx : v.1 a 0 = x) (k : EvP X d M (pc + 3) ls (.int x :: st) T v P) : EvP X d M pc ls (.ref a :: st) T v P :=
  ev_getf (k0 := 0) (ci := 6) pc hd (by rw [hM]; exact rfl) hk (by decide) (congrArg Value.int hx) k
theorem gf_6_15 {X : pmX} {d : Nat} {M : pmM} {ls st : List Value} {T : pmT} {v : pmV} {P : Option Value → pmT → pmV → Prop} {pc : Nat} {a x : Nat} (hM : M.1 = 6) (hd : decode M.2.2.1 pc = .ok (.getfield 15, 3)) (hk : pmKind T a = 6) (hx : v.2.2 a 2 = some x) (k : EvP X d M (pc + 3) ls (.ref x :: st) T v P) : EvP X d M pc ls (.ref a :: st) T v P :=
  ev_getf (k0 := 2) (ci := 6) pc hd (by rw [hM]; exact rfl) hk (by decide) (pm_rf hx) k
theorem gf_6_19 {X : pmX} {d : Nat} {M : pmM} {ls st : List Value} {T : pmT} {v : pmV} {P : Option Value → pmT → pmV → Prop} {pc : Nat} {a : Nat} {x : Int32} (hM : M.1 = 6) (hd : decode M.2.2.1 pc = .ok (.getfield 19, 3)) (hk : pmKind T a = 6) (hx : v.1 a 1 = x) (k : EvP X d M (pc + 3) ls (.int x :: st) T v P) : EvP X d M pc ls (.ref a :: st) T v P :=
  ev_getf (k0 := 1) (ci := 6) pc hd (by rw [hM]; exact rfl) hk (by decide) (congrArg Value.int hx) k
theorem gf_9_9 {X : pmX} {d : Nat} {M : pmM} {ls st : List Value} {T : pmT} {v : pmV} {P : Option Value → pmT → pmV → Prop} {pc : Nat} {a x : Nat} (hM : M.1 = 9) (hd : decode M.2.2.1 pc = .ok (.getfield 9, 3)) (hk : pmKind T a = 9) (hx : v.2.2 a 0 = some x) (k : EvP X d M (pc + 3) ls (.ref x :: st) T v P) : EvP X d M pc ls (.ref a :: st) T v P :=
  ev_getf (k0 := 0) (ci := 9) pc hd (by rw [hM]; exact rfl) hk (by decide) (pm_rf hx) k
theorem gf_9_15 {X : pmX} {d : Nat} {M : pmM} {ls st : List Value} {T : pmT} {v : pmV} {P : Option Value → pmT → pmV → Prop} {pc : Nat} {a x : Nat} (hM : M.1 = 9) (hd : decode M.2.2.1 pc = .ok (.getfield 15, 3)) (hk : pmKind T a = 9) (hx : v.2.2 a 1 = some x) (k : EvP X d M (pc + 3) ls (.ref x :: st) T v P) : EvP X d M pc ls (.ref a :: st) T v P :=
  ev_getf (k0 := 1) (ci := 9) pc hd (by rw [hM]; exact rfl) hk (by decide) (pm_rf hx) k
theorem gf_9_18 {X : pmX} {d : Nat} {M : pmM} {ls st : List Value} {T : pmT} {v : pmV} {P : Option Value → pmT → pmV → Prop} {pc : Nat} {a x : Nat} (hM : M.1 = 9) (hd : decode M.2.2.1 pc = .ok (.getfield 18, 3)) (hk : pmKind T a = 9) (hx : v.2.2 a 2 = some x) (k : EvP X d M (pc + 3) ls (.ref x :: st) T v P) : EvP X d M pc ls (.ref a :: st) T v P :=
  ev_getf (k0 := 2) (ci := 9) pc hd (by rw [hM]; exact rfl) hk (by decide) (pm_rf hx) k
theorem gf_11_11 {X : pmX} {d : Nat} {M : pmM} {ls st : List Value} {T : pmT} {v : pmV} {P : Option Value → pmT → pmV → Prop} {pc : Nat} {a x : Nat} (hM : M.1 = 11) (hd : decode M.2.2.1 pc = .ok (.getfield 11, 3)) (hk : pmKind T a = 11) (hx : v.2.2 a 0 = some x) (k : EvP X d M (pc + 3) ls (.ref x :: st) T v P) : EvP X d M pc ls (.ref a :: st) T v P :=
  ev_getf (k0 := 0) (ci := 11) pc hd (by rw [hM]; exact rfl) hk (by decide) (pm_rf hx) k
theorem gf_11_18 {X : pmX} {d : Nat} {M : pmM} {ls st : List Value} {T : pmT} {v : pmV} {P : Option Value → pmT → pmV → Prop} {pc : Nat} {a x : Nat} (hM : M.1 = 11) (hd : decode M.2.2.1 pc = .ok (.getfield 18, 3)) (hk : pmKind T a = 11) (hx : v.2.2 a 2 = some x) (k : EvP X d M (pc + 3) ls (.ref x :: st) T v P) : EvP X d M pc ls (.ref a :: st) T v P :=
  ev_getf (k0 := 2) (ci := 11) pc hd (by rw [hM]; exact rfl) hk (by decide) (pm_rf hx) k
theorem gf_11_22 {X : pmX} {d : Nat} {M : pmM} {ls st : List Value} {T : pmT} {v : pmV} {P : Option Value → pmT → pmV → Prop} {pc : Nat} {a x : Nat} (hM : M.1 = 11) (hd : decode M.2.2.1 pc = .ok (.getfield 22, 3)) (hk : pmKind T a = 11) (hx : v.2.2 a 3 = some x) (k : EvP X d M (pc + 3) ls (.ref x :: st) T v P) : EvP X d M pc ls (.ref a :: st) T v P :=
  ev_getf (k0 := 3) (ci := 11) pc hd (by rw [hM]; exact rfl) hk (by decide) (pm_rf hx) k
theorem gf_11_27 {X : pmX} {d : Nat} {M : pmM} {ls st : List Value} {T : pmT} {v : pmV} {P : Option Value → pmT → pmV → Prop} {pc : Nat} {a x : Nat} (hM : M.1 = 11) (hd : decode M.2.2.1 pc = .ok (.getfield 27, 3)) (hk : pmKind T a = 11) (hx : v.2.2 a 5 = some x) (k : EvP X d M (pc + 3) ls (.ref x :: st) T v P) : EvP X d M pc ls (.ref a :: st) T v P :=
  ev_getf (k0 := 5) (ci := 11) pc hd (by rw [hM]; exact rfl) hk (by decide) (pm_rf hx) k
theorem gf_11_34 {X : pmX} {d : Nat} {M : pmM} {ls st : List Value} {T : pmT} {v : pmV} {P : Option Value → pmT → pmV → Prop} {pc : Nat} {a x : Nat} (hM : M.1 = 11) (hd : decode M.2.2.1 pc = .ok (.getfield 34, 3)) (hk : pmKind T a = 11) (hx : v.2.2 a 7 = some x) (k : EvP X d M (pc + 3) ls (.ref x :: st) T v P) : EvP X d M pc ls (.ref a :: st) T v P :=
  ev_getf (k0 := 7) (ci := 11) pc hd (by rw [hM]; exact rfl) hk (by decide) (pm_rf hx) k
theorem gf_11_40 {X : pmX} {d : Nat} {M : pmM} {ls st : List Value} {T : pmT} {v : pmV} {P : Option Value → pmT → pmV → Prop} {pc : Nat} {a x : Nat} (hM : M.1 = 11) (hd : decode M.2.2.1 pc = .ok (.getfield 40, 3)) (hk : pmKind T a = 11) (hx : v.2.2 a 8 = some x) (k : EvP X d M (pc + 3) ls (.ref x :: st) T v P) : EvP X d M pc ls (.ref a :: st) T v P :=
  ev_getf (k0 := 8) (ci := 11) pc hd (by rw [hM]; exact rfl) hk (by decide) (pm_rf hx) k
theorem gf_11_47 {X : pmX} {d : Nat} {M : pmM} {ls st : List Value} {T : pmT} {v : pmV} {P : Option Value → pmT → pmV → Prop} {pc : Nat} {a x : Nat} (hM : M.1 = 11) (hd : decode M.2.2.1 pc = .ok (.getfield 47, 3)) (hk : pmKind T a = 11) (hx : v.2.2 a 9 = some x) (k : EvP X d M (pc + 3) ls (.ref x :: st) T v P) : EvP X d M pc ls (.ref a :: st) T v P :=
  ev_getf (k0 := 9) (ci := 11) pc hd (by rw [hM]; exact rfl) hk (by decide) (pm_rf hx) k
theorem gf_11_51 {X : pmX} {d : Nat} {M : pmM} {ls st : List Value} {T : pmT} {v : pmV} {P : Option Value → pmT → pmV → Prop} {pc : Nat} {a x : Nat} (hM : M.1 = 11) (hd : decode M.2.2.1 pc = .ok (.getfield 51, 3)) (hk : pmKind T a = 11) (hx : v.2.2 a 10 = some x) (k : EvP X d M (pc + 3) ls (.ref x :: st) T v P) : EvP X d M pc ls (.ref a :: st) T v P :=
  ev_getf (k0 := 10) (ci := 11) pc hd (by rw [hM]; exact rfl) hk (by decide) (pm_rf hx) k
theorem gf_11_67 {X : pmX} {d : Nat} {M : pmM} {ls st : List Value} {T : pmT} {v : pmV} {P : Option Value → pmT → pmV → Prop} {pc : Nat} {a : Nat} {x : Int32} (hM : M.1 = 11) (hd : decode M.2.2.1 pc = .ok (.getfield 67, 3)) (hk : pmKind T a = 4) (hx : v.1 a 1 = x) (k : EvP X d M (pc + 3) ls (.int x :: st) T v P) : EvP X d M pc ls (.ref a :: st) T v P :=
  ev_getf (k0 := 1) (ci := 4) pc hd (by rw [hM]; exact rfl) hk (by decide) (congrArg Value.int hx) k
theorem gf_11_71 {X : pmX} {d : Nat} {M : pmM} {ls st : List Value} {T : pmT} {v : pmV} {P : Option Value → pmT → pmV → Prop} {pc : Nat} {a : Nat} {x : Int32} (hM : M.1 = 11) (hd : decode M.2.2.1 pc = .ok (.getfield 71, 3)) (hk : pmKind T a = 11) (hx : v.1 a 6 = x) (k : EvP X d M (pc + 3) ls (.int x :: st) T v P) : EvP X d M pc ls (.ref a :: st) T v P :=
  ev_getf (k0 := 6) (ci := 11) pc hd (by rw [hM]; exact rfl) hk (by decide) (congrArg Value.int hx) k
theorem gf_11_78 {X : pmX} {d : Nat} {M : pmM} {ls st : List Value} {T : pmT} {v : pmV} {P : Option Value → pmT → pmV → Prop} {pc : Nat} {a : Nat} {x : Int32} (hM : M.1 = 11) (hd : decode M.2.2.1 pc = .ok (.getfield 78, 3)) (hk : pmKind T a = 11) (hx : v.1 a 1 = x) (k : EvP X d M (pc + 3) ls (.int x :: st) T v P) : EvP X d M pc ls (.ref a :: st) T v P :=
  ev_getf (k0 := 1) (ci := 11) pc hd (by rw [hM]; exact rfl) hk (by decide) (congrArg Value.int hx) k
theorem gf_11_89 {X : pmX} {d : Nat} {M : pmM} {ls st : List Value} {T : pmT} {v : pmV} {P : Option Value → pmT → pmV → Prop} {pc : Nat} {a x : Nat} (hM : M.1 = 11) (hd : decode M.2.2.1 pc = .ok (.getfield 89, 3)) (hk : pmKind T a = 5) (hx : v.2.2 a 0 = some x) (k : EvP X d M (pc + 3) ls (.ref x :: st) T v P) : EvP X d M pc ls (.ref a :: st) T v P :=
  ev_getf (k0 := 0) (ci := 5) pc hd (by rw [hM]; exact rfl) hk (by decide) (pm_rf hx) k
theorem gf_11_93 {X : pmX} {d : Nat} {M : pmM} {ls st : List Value} {T : pmT} {v : pmV} {P : Option Value → pmT → pmV → Prop} {pc : Nat} {a x : Nat} (hM : M.1 = 11) (hd : decode M.2.2.1 pc = .ok (.getfield 93, 3)) (hk : pmKind T a = 5) (hx : v.2.2 a 1 = some x) (k : EvP X d M (pc + 3) ls (.ref x :: st) T v P) : EvP X d M pc ls (.ref a :: st) T v P :=
  ev_getf (k0 := 1) (ci := 5) pc hd (by rw [hM]; exact rfl) hk (by decide) (pm_rf hx) k
theorem gl_11_128 {X : pmX} {d : Nat} {M : pmM} {ls st : List Value} {T : pmT} {v : pmV} {P : Option Value → pmT → pmV → Prop} {pc : Nat} {a ci : Nat} (hM : M.1 = 11) (hd : decode M.2.2.1 pc = .ok (.getfield 128, 3)) (hk : pmKind T a = ci) (hc : ci ∈ [0, 2, 3, 7, 8, 10]) (k : EvP X d M (pc + 3) ls (.int (v.1 a 0) :: st) T v P) : EvP X d M pc ls (.ref a :: st) T v P :=
  ev_getf (k0 := 0) pc hd (by rw [hM]; exact rfl) hk hc (by simp only [List.mem_cons, List.not_mem_nil, or_false] at hc; rcases hc with rfl | rfl | rfl | rfl | rfl | rfl <;> rfl) k
theorem gl_11_131 {X : pmX} {d : Nat} {M : pmM} {ls st : List Value} {T : pmT} {v : pmV} {P : Option Value → pmT → pmV → Prop} {pc : Nat} {a ci : Nat} (hM : M.1 = 11) (hd : decode M.2.2.1 pc = .ok (.getfield 131, 3)) (hk : pmKind T a = ci) (hc : ci ∈ [0, 2, 3, 7, 8, 10]) (k : EvP X d M (pc + 3) ls (.int (v.1 a 1) :: st) T v P) : EvP X d M pc ls (.ref a :: st) T v P :=
  ev_getf (k0 := 1) pc hd (by rw [hM]; exact rfl) hk hc (by simp only [List.mem_cons, List.not_mem_nil, or_false] at hc; rcases hc with rfl | rfl | rfl | rfl | rfl | rfl <;> rfl) k
theorem gl_11_134 {X : pmX} {d : Nat} {M : pmM} {ls st : List Value} {T : pmT} {v : pmV} {P : Option Value → pmT → pmV → Prop} {pc : Nat} {a ci : Nat} (hM : M.1 = 11) (hd : decode M.2.2.1 pc = .ok (.getfield 134, 3)) (hk : pmKind T a = ci) (hc : ci ∈ [0, 2, 3, 7, 8, 10]) (k : EvP X d M (pc + 3) ls (.int (v.1 a 2) :: st) T v P) : EvP X d M pc ls (.ref a :: st) T v P :=
  ev_getf (k0 := 2) pc hd (by rw [hM]; exact rfl) hk hc (by simp only [List.mem_cons, List.not_mem_nil, or_false] at hc; rcases hc with rfl | rfl | rfl | rfl | rfl | rfl <;> rfl) k
theorem gf_11_137 {X : pmX} {d : Nat} {M : pmM} {ls st : List Value} {T : pmT} {v : pmV} {P : Option Value → pmT → pmV → Prop} {pc : Nat} {a : Nat} {x : Int32} (hM : M.1 = 11) (hd : decode M.2.2.1 pc = .ok (.getfield 137, 3)) (hk : pmKind T a = 5) (hx : v.1 a 2 = x) (k : EvP X d M (pc + 3) ls (.int x :: st) T v P) : EvP X d M pc ls (.ref a :: st) T v P :=
  ev_getf (k0 := 2) (ci := 5) pc hd (by rw [hM]; exact rfl) hk (by decide) (congrArg Value.int hx) k
theorem gf_11_153 {X : pmX} {d : Nat} {M : pmM} {ls st : List Value} {T : pmT} {v : pmV} {P : Option Value → pmT → pmV → Prop} {pc : Nat} {a : Nat} {x : Int32} (hM : M.1 = 11) (hd : decode M.2.2.1 pc = .ok (.getfield 153, 3)) (hk : pmKind T a = 5) (hx : v.1 a 6 = x) (k : EvP X d M (pc + 3) ls (.int x :: st) T v P) : EvP X d M pc ls (.ref a :: st) T v P :=
  ev_getf (k0 := 6) (ci := 5) pc hd (by rw [hM]; exact rfl) hk (by decide) (congrArg Value.int hx) k
theorem gf_11_165 {X : pmX} {d : Nat} {M : pmM} {ls st : List Value} {T : pmT} {v : pmV} {P : Option Value → pmT → pmV → Prop} {pc : Nat} {a : Nat} {x : Int64} (hM : M.1 = 11) (hd : decode M.2.2.1 pc = .ok (.getfield 165, 3)) (hk : pmKind T a = 1) (hx : v.2.1 a 15 = x) (k : EvP X d M (pc + 3) ls (.long x :: st) T v P) : EvP X d M pc ls (.ref a :: st) T v P :=
  ev_getf (k0 := 15) (ci := 1) pc hd (by rw [hM]; exact rfl) hk (by decide) (congrArg Value.long hx) k
theorem gf_11_169 {X : pmX} {d : Nat} {M : pmM} {ls st : List Value} {T : pmT} {v : pmV} {P : Option Value → pmT → pmV → Prop} {pc : Nat} {a x : Nat} (hM : M.1 = 11) (hd : decode M.2.2.1 pc = .ok (.getfield 169, 3)) (hk : pmKind T a = 1) (hx : v.2.2 a 11 = some x) (k : EvP X d M (pc + 3) ls (.ref x :: st) T v P) : EvP X d M pc ls (.ref a :: st) T v P :=
  ev_getf (k0 := 11) (ci := 1) pc hd (by rw [hM]; exact rfl) hk (by decide) (pm_rf hx) k
theorem gf_11_172 {X : pmX} {d : Nat} {M : pmM} {ls st : List Value} {T : pmT} {v : pmV} {P : Option Value → pmT → pmV → Prop} {pc : Nat} {a : Nat} {x : Int32} (hM : M.1 = 11) (hd : decode M.2.2.1 pc = .ok (.getfield 172, 3)) (hk : pmKind T a = 1) (hx : v.1 a 16 = x) (k : EvP X d M (pc + 3) ls (.int x :: st) T v P) : EvP X d M pc ls (.ref a :: st) T v P :=
  ev_getf (k0 := 16) (ci := 1) pc hd (by rw [hM]; exact rfl) hk (by decide) (congrArg Value.int hx) k
theorem gf_11_175 {X : pmX} {d : Nat} {M : pmM} {ls st : List Value} {T : pmT} {v : pmV} {P : Option Value → pmT → pmV → Prop} {pc : Nat} {a : Nat} {x : Int32} (hM : M.1 = 11) (hd : decode M.2.2.1 pc = .ok (.getfield 175, 3)) (hk : pmKind T a = 1) (hx : v.1 a 17 = x) (k : EvP X d M (pc + 3) ls (.int x :: st) T v P) : EvP X d M pc ls (.ref a :: st) T v P :=
  ev_getf (k0 := 17) (ci := 1) pc hd (by rw [hM]; exact rfl) hk (by decide) (congrArg Value.int hx) k
theorem gf_11_231 {X : pmX} {d : Nat} {M : pmM} {ls st : List Value} {T : pmT} {v : pmV} {P : Option Value → pmT → pmV → Prop} {pc : Nat} {a : Nat} {x : Int32} (hM : M.1 = 11) (hd : decode M.2.2.1 pc = .ok (.getfield 231, 3)) (hk : pmKind T a = 11) (hx : v.1 a 4 = x) (k : EvP X d M (pc + 3) ls (.int x :: st) T v P) : EvP X d M pc ls (.ref a :: st) T v P :=
  ev_getf (k0 := 4) (ci := 11) pc hd (by rw [hM]; exact rfl) hk (by decide) (congrArg Value.int hx) k
theorem gf_11_246 {X : pmX} {d : Nat} {M : pmM} {ls st : List Value} {T : pmT} {v : pmV} {P : Option Value → pmT → pmV → Prop} {pc : Nat} {a : Nat} {x : Int32} (hM : M.1 = 11) (hd : decode M.2.2.1 pc = .ok (.getfield 246, 3)) (hk : pmKind T a = 6) (hx : v.1 a 0 = x) (k : EvP X d M (pc + 3) ls (.int x :: st) T v P) : EvP X d M pc ls (.ref a :: st) T v P :=
  ev_getf (k0 := 0) (ci := 6) pc hd (by rw [hM]; exact rfl) hk (by decide) (congrArg Value.int hx) k
theorem gf_11_253 {X : pmX} {d : Nat} {M : pmM} {ls st : List Value} {T : pmT} {v : pmV} {P : Option Value → pmT → pmV → Prop} {pc : Nat} {a x : Nat} (hM : M.1 = 11) (hd : decode M.2.2.1 pc = .ok (.getfield 253, 3)) (hk : pmKind T a = 6) (hx : v.2.2 a 2 = some x) (k : EvP X d M (pc + 3) ls (.ref x :: st) T v P) : EvP X d M pc ls (.ref a :: st) T v P :=
  ev_getf (k0 := 2) (ci := 6) pc hd (by rw [hM]; exact rfl) hk (by decide) (pm_rf hx) k
theorem gf_11_294 {X : pmX} {d : Nat} {M : pmM} {ls st : List Value} {T : pmT} {v : pmV} {P : Option Value → pmT → pmV → Prop} {pc : Nat} {a x : Nat} (hM : M.1 = 11) (hd : decode M.2.2.1 pc = .ok (.getfield 294, 3)) (hk : pmKind T a = 1) (hx : v.2.2 a 4 = some x) (k : EvP X d M (pc + 3) ls (.ref x :: st) T v P) : EvP X d M pc ls (.ref a :: st) T v P :=
  ev_getf (k0 := 4) (ci := 1) pc hd (by rw [hM]; exact rfl) hk (by decide) (pm_rf hx) k
theorem gf_12_1 {X : pmX} {d : Nat} {M : pmM} {ls st : List Value} {T : pmT} {v : pmV} {P : Option Value → pmT → pmV → Prop} {pc : Nat} {a : Nat} {x : Int32} (hM : M.1 = 12) (hd : decode M.2.2.1 pc = .ok (.getfield 1, 3)) (hk : pmKind T a = 12) (hx : v.1 a 0 = x) (k : EvP X d M (pc + 3) ls (.int x :: st) T v P) : EvP X d M pc ls (.ref a :: st) T v P :=
  ev_getf (k0 := 0) (ci := 12) pc hd (by rw [hM]; exact rfl) hk (by decide) (congrArg Value.int hx) k
theorem gf_12_11 {X : pmX} {d : Nat} {M : pmM} {ls st : List Value} {T : pmT} {v : pmV} {P : Option Value → pmT → pmV → Prop} {pc : Nat} {a x : Nat} (hM : M.1 = 12) (hd : decode M.2.2.1 pc = .ok (.getfield 11, 3)) (hk : pmKind T a = 12) (hx : v.2.2 a 5 = some x) (k : EvP X d M (pc + 3) ls (.ref x :: st) T v P) : EvP X d M pc ls (.ref a :: st) T v P :=
  ev_getf (k0 := 5) (ci := 12) pc hd (by rw [hM]; exact rfl) hk (by decide) (pm_rf hx) k
theorem gf_12_15 {X : pmX} {d : Nat} {M : pmM} {ls st : List Value} {T : pmT} {v : pmV} {P : Option Value → pmT → pmV → Prop} {pc : Nat} {a x : Nat} (hM : M.1 = 12) (hd : decode M.2.2.1 pc = .ok (.getfield 15, 3)) (hk : pmKind T a = 12) (hx : v.2.2 a 6 = some x) (k : EvP X d M (pc + 3) ls (.ref x :: st) T v P) : EvP X d M pc ls (.ref a :: st) T v P :=
  ev_getf (k0 := 6) (ci := 12) pc hd (by rw [hM]; exact rfl) hk (by decide) (pm_rf hx) k
theorem gf_12_18 {X : pmX} {d : Nat} {M : pmM} {ls st : List Value} {T : pmT} {v : pmV} {P : Option Value → pmT → pmV → Prop} {pc : Nat} {a x : Nat} (hM : M.1 = 12) (hd : decode M.2.2.1 pc = .ok (.getfield 18, 3)) (hk : pmKind T a = 12) (hx : v.2.2 a 7 = some x) (k : EvP X d M (pc + 3) ls (.ref x :: st) T v P) : EvP X d M pc ls (.ref a :: st) T v P :=
  ev_getf (k0 := 7) (ci := 12) pc hd (by rw [hM]; exact rfl) hk (by decide) (pm_rf hx) k
theorem gf_12_28 {X : pmX} {d : Nat} {M : pmM} {ls st : List Value} {T : pmT} {v : pmV} {P : Option Value → pmT → pmV → Prop} {pc : Nat} {a : Nat} {x : Int32} (hM : M.1 = 12) (hd : decode M.2.2.1 pc = .ok (.getfield 28, 3)) (hk : pmKind T a = 12) (hx : v.1 a 1 = x) (k : EvP X d M (pc + 3) ls (.int x :: st) T v P) : EvP X d M pc ls (.ref a :: st) T v P :=
  ev_getf (k0 := 1) (ci := 12) pc hd (by rw [hM]; exact rfl) hk (by decide) (congrArg Value.int hx) k
theorem gf_12_31 {X : pmX} {d : Nat} {M : pmM} {ls st : List Value} {T : pmT} {v : pmV} {P : Option Value → pmT → pmV → Prop} {pc : Nat} {a x : Nat} (hM : M.1 = 12) (hd : decode M.2.2.1 pc = .ok (.getfield 31, 3)) (hk : pmKind T a = 12) (hx : v.2.2 a 8 = some x) (k : EvP X d M (pc + 3) ls (.ref x :: st) T v P) : EvP X d M pc ls (.ref a :: st) T v P :=
  ev_getf (k0 := 8) (ci := 12) pc hd (by rw [hM]; exact rfl) hk (by decide) (pm_rf hx) k
theorem gf_12_34 {X : pmX} {d : Nat} {M : pmM} {ls st : List Value} {T : pmT} {v : pmV} {P : Option Value → pmT → pmV → Prop} {pc : Nat} {a x : Nat} (hM : M.1 = 12) (hd : decode M.2.2.1 pc = .ok (.getfield 34, 3)) (hk : pmKind T a = 12) (hx : v.2.2 a 9 = some x) (k : EvP X d M (pc + 3) ls (.ref x :: st) T v P) : EvP X d M pc ls (.ref a :: st) T v P :=
  ev_getf (k0 := 9) (ci := 12) pc hd (by rw [hM]; exact rfl) hk (by decide) (pm_rf hx) k
theorem gf_12_41 {X : pmX} {d : Nat} {M : pmM} {ls st : List Value} {T : pmT} {v : pmV} {P : Option Value → pmT → pmV → Prop} {pc : Nat} {a x : Nat} (hM : M.1 = 12) (hd : decode M.2.2.1 pc = .ok (.getfield 41, 3)) (hk : pmKind T a = 12) (hx : v.2.2 a 49 = some x) (k : EvP X d M (pc + 3) ls (.ref x :: st) T v P) : EvP X d M pc ls (.ref a :: st) T v P :=
  ev_getf (k0 := 49) (ci := 12) pc hd (by rw [hM]; exact rfl) hk (by decide) (pm_rf hx) k
theorem gf_12_44 {X : pmX} {d : Nat} {M : pmM} {ls st : List Value} {T : pmT} {v : pmV} {P : Option Value → pmT → pmV → Prop} {pc : Nat} {a x : Nat} (hM : M.1 = 12) (hd : decode M.2.2.1 pc = .ok (.getfield 44, 3)) (hk : pmKind T a = 12) (hx : v.2.2 a 50 = some x) (k : EvP X d M (pc + 3) ls (.ref x :: st) T v P) : EvP X d M pc ls (.ref a :: st) T v P :=
  ev_getf (k0 := 50) (ci := 12) pc hd (by rw [hM]; exact rfl) hk (by decide) (pm_rf hx) k
theorem gf_12_47 {X : pmX} {d : Nat} {M : pmM} {ls st : List Value} {T : pmT} {v : pmV} {P : Option Value → pmT → pmV → Prop} {pc : Nat} {a x : Nat} (hM : M.1 = 12) (hd : decode M.2.2.1 pc = .ok (.getfield 47, 3)) (hk : pmKind T a = 12) (hx : v.2.2 a 51 = some x) (k : EvP X d M (pc + 3) ls (.ref x :: st) T v P) : EvP X d M pc ls (.ref a :: st) T v P :=
  ev_getf (k0 := 51) (ci := 12) pc hd (by rw [hM]; exact rfl) hk (by decide) (pm_rf hx) k
theorem gf_12_50 {X : pmX} {d : Nat} {M : pmM} {ls st : List Value} {T : pmT} {v : pmV} {P : Option Value → pmT → pmV → Prop} {pc : Nat} {a : Nat} {x : Int32} (hM : M.1 = 12) (hd : decode M.2.2.1 pc = .ok (.getfield 50, 3)) (hk : pmKind T a = 12) (hx : v.1 a 2 = x) (k : EvP X d M (pc + 3) ls (.int x :: st) T v P) : EvP X d M pc ls (.ref a :: st) T v P :=
  ev_getf (k0 := 2) (ci := 12) pc hd (by rw [hM]; exact rfl) hk (by decide) (congrArg Value.int hx) k
theorem gf_12_59 {X : pmX} {d : Nat} {M : pmM} {ls st : List Value} {T : pmT} {v : pmV} {P : Option Value → pmT → pmV → Prop} {pc : Nat} {a : Nat} {x : Int32} (hM : M.1 = 12) (hd : decode M.2.2.1 pc = .ok (.getfield 59, 3)) (hk : pmKind T a = 12) (hx : v.1 a 3 = x) (k : EvP X d M (pc + 3) ls (.int x :: st) T v P) : EvP X d M pc ls (.ref a :: st) T v P :=
  ev_getf (k0 := 3) (ci := 12) pc hd (by rw [hM]; exact rfl) hk (by decide) (congrArg Value.int hx) k
theorem gf_12_62 {X : pmX} {d : Nat} {M : pmM} {ls st : List Value} {T : pmT} {v : pmV} {P : Option Value → pmT → pmV → Prop} {pc : Nat} {a : Nat} {x : Int32} (hM : M.1 = 12) (hd : decode M.2.2.1 pc = .ok (.getfield 62, 3)) (hk : pmKind T a = 12) (hx : v.1 a 4 = x) (k : EvP X d M (pc + 3) ls (.int x :: st) T v P) : EvP X d M pc ls (.ref a :: st) T v P :=
  ev_getf (k0 := 4) (ci := 12) pc hd (by rw [hM]; exact rfl) hk (by decide) (congrArg Value.int hx) k
theorem gf_12_83 {X : pmX} {d : Nat} {M : pmM} {ls st : List Value} {T : pmT} {v : pmV} {P : Option Value → pmT → pmV → Prop} {pc : Nat} {a : Nat} {x : Int32} (hM : M.1 = 12) (hd : decode M.2.2.1 pc = .ok (.getfield 83, 3)) (hk : pmKind T a = 12) (hx : v.1 a 10 = x) (k : EvP X d M (pc + 3) ls (.int x :: st) T v P) : EvP X d M pc ls (.ref a :: st) T v P :=
  ev_getf (k0 := 10) (ci := 12) pc hd (by rw [hM]; exact rfl) hk (by decide) (congrArg Value.int hx) k
theorem gf_12_86 {X : pmX} {d : Nat} {M : pmM} {ls st : List Value} {T : pmT} {v : pmV} {P : Option Value → pmT → pmV → Prop} {pc : Nat} {a : Nat} {x : Int32} (hM : M.1 = 12) (hd : decode M.2.2.1 pc = .ok (.getfield 86, 3)) (hk : pmKind T a = 12) (hx : v.1 a 11 = x) (k : EvP X d M (pc + 3) ls (.int x :: st) T v P) : EvP X d M pc ls (.ref a :: st) T v P :=
  ev_getf (k0 := 11) (ci := 12) pc hd (by rw [hM]; exact rfl) hk (by decide) (congrArg Value.int hx) k
theorem gf_12_89 {X : pmX} {d : Nat} {M : pmM} {ls st : List Value} {T : pmT} {v : pmV} {P : Option Value → pmT → pmV → Prop} {pc : Nat} {a : Nat} {x : Int32} (hM : M.1 = 12) (hd : decode M.2.2.1 pc = .ok (.getfield 89, 3)) (hk : pmKind T a = 12) (hx : v.1 a 12 = x) (k : EvP X d M (pc + 3) ls (.int x :: st) T v P) : EvP X d M pc ls (.ref a :: st) T v P :=
  ev_getf (k0 := 12) (ci := 12) pc hd (by rw [hM]; exact rfl) hk (by decide) (congrArg Value.int hx) k
theorem gf_12_92 {X : pmX} {d : Nat} {M : pmM} {ls st : List Value} {T : pmT} {v : pmV} {P : Option Value → pmT → pmV → Prop} {pc : Nat} {a : Nat} {x : Int32} (hM : M.1 = 12) (hd : decode M.2.2.1 pc = .ok (.getfield 92, 3)) (hk : pmKind T a = 12) (hx : v.1 a 13 = x) (k : EvP X d M (pc + 3) ls (.int x :: st) T v P) : EvP X d M pc ls (.ref a :: st) T v P :=
  ev_getf (k0 := 13) (ci := 12) pc hd (by rw [hM]; exact rfl) hk (by decide) (congrArg Value.int hx) k
theorem gf_12_95 {X : pmX} {d : Nat} {M : pmM} {ls st : List Value} {T : pmT} {v : pmV} {P : Option Value → pmT → pmV → Prop} {pc : Nat} {a : Nat} {x : Int32} (hM : M.1 = 12) (hd : decode M.2.2.1 pc = .ok (.getfield 95, 3)) (hk : pmKind T a = 12) (hx : v.1 a 14 = x) (k : EvP X d M (pc + 3) ls (.int x :: st) T v P) : EvP X d M pc ls (.ref a :: st) T v P :=
  ev_getf (k0 := 14) (ci := 12) pc hd (by rw [hM]; exact rfl) hk (by decide) (congrArg Value.int hx) k
theorem gf_12_98 {X : pmX} {d : Nat} {M : pmM} {ls st : List Value} {T : pmT} {v : pmV} {P : Option Value → pmT → pmV → Prop} {pc : Nat} {a : Nat} {x : Int32} (hM : M.1 = 12) (hd : decode M.2.2.1 pc = .ok (.getfield 98, 3)) (hk : pmKind T a = 12) (hx : v.1 a 15 = x) (k : EvP X d M (pc + 3) ls (.int x :: st) T v P) : EvP X d M pc ls (.ref a :: st) T v P :=
  ev_getf (k0 := 15) (ci := 12) pc hd (by rw [hM]; exact rfl) hk (by decide) (congrArg Value.int hx) k
theorem gf_12_101 {X : pmX} {d : Nat} {M : pmM} {ls st : List Value} {T : pmT} {v : pmV} {P : Option Value → pmT → pmV → Prop} {pc : Nat} {a : Nat} {x : Int32} (hM : M.1 = 12) (hd : decode M.2.2.1 pc = .ok (.getfield 101, 3)) (hk : pmKind T a = 12) (hx : v.1 a 16 = x) (k : EvP X d M (pc + 3) ls (.int x :: st) T v P) : EvP X d M pc ls (.ref a :: st) T v P :=
  ev_getf (k0 := 16) (ci := 12) pc hd (by rw [hM]; exact rfl) hk (by decide) (congrArg Value.int hx) k
theorem gf_12_104 {X : pmX} {d : Nat} {M : pmM} {ls st : List Value} {T : pmT} {v : pmV} {P : Option Value → pmT → pmV → Prop} {pc : Nat} {a : Nat} {x : Int32} (hM : M.1 = 12) (hd : decode M.2.2.1 pc = .ok (.getfield 104, 3)) (hk : pmKind T a = 12) (hx : v.1 a 17 = x) (k : EvP X d M (pc + 3) ls (.int x :: st) T v P) : EvP X d M pc ls (.ref a :: st) T v P :=
  ev_getf (k0 := 17) (ci := 12) pc hd (by rw [hM]; exact rfl) hk (by decide) (congrArg Value.int hx) k
theorem gf_12_107 {X : pmX} {d : Nat} {M : pmM} {ls st : List Value} {T : pmT} {v : pmV} {P : Option Value → pmT → pmV → Prop} {pc : Nat} {a : Nat} {x : Int32} (hM : M.1 = 12) (hd : decode M.2.2.1 pc = .ok (.getfield 107, 3)) (hk : pmKind T a = 12) (hx : v.1 a 18 = x) (k : EvP X d M (pc + 3) ls (.int x :: st) T v P) : EvP X d M pc ls (.ref a :: st) T v P :=
  ev_getf (k0 := 18) (ci := 12) pc hd (by rw [hM]; exact rfl) hk (by decide) (congrArg Value.int hx) k
theorem gf_12_110 {X : pmX} {d : Nat} {M : pmM} {ls st : List Value} {T : pmT} {v : pmV} {P : Option Value → pmT → pmV → Prop} {pc : Nat} {a : Nat} {x : Int32} (hM : M.1 = 12) (hd : decode M.2.2.1 pc = .ok (.getfield 110, 3)) (hk : pmKind T a = 12) (hx : v.1 a 19 = x) (k : EvP X d M (pc + 3) ls (.int x :: st) T v P) : EvP X d M pc ls (.ref a :: st) T v P :=
  ev_getf (k0 := 19) (ci := 12) pc hd (by rw [hM]; exact rfl) hk (by decide) (congrArg Value.int hx) k
theorem gf_12_113 {X : pmX} {d : Nat} {M : pmM} {ls st : List Value} {T : pmT} {v : pmV} {P : Option Value → pmT → pmV → Prop} {pc : Nat} {a x : Nat} (hM : M.1 = 12) (hd : decode M.2.2.1 pc = .ok (.getfield 113, 3)) (hk : pmKind T a = 12) (hx : v.2.2 a 20 = some x) (k : EvP X d M (pc + 3) ls (.ref x :: st) T v P) : EvP X d M pc ls (.ref a :: st) T v P :=
  ev_getf (k0 := 20) (ci := 12) pc hd (by rw [hM]; exact rfl) hk (by decide) (pm_rf hx) k
theorem gf_12_116 {X : pmX} {d : Nat} {M : pmM} {ls st : List Value} {T : pmT} {v : pmV} {P : Option Value → pmT → pmV → Prop} {pc : Nat} {a x : Nat} (hM : M.1 = 12) (hd : decode M.2.2.1 pc = .ok (.getfield 116, 3)) (hk : pmKind T a = 12) (hx : v.2.2 a 21 = some x) (k : EvP X d M (pc + 3) ls (.ref x :: st) T v P) : EvP X d M pc ls (.ref a :: st) T v P :=
  ev_getf (k0 := 21) (ci := 12) pc hd (by rw [hM]; exact rfl) hk (by decide) (pm_rf hx) k
theorem gf_12_119 {X : pmX} {d : Nat} {M : pmM} {ls st : List Value} {T : pmT} {v : pmV} {P : Option Value → pmT → pmV → Prop} {pc : Nat} {a x : Nat} (hM : M.1 = 12) (hd : decode M.2.2.1 pc = .ok (.getfield 119, 3)) (hk : pmKind T a = 12) (hx : v.2.2 a 22 = some x) (k : EvP X d M (pc + 3) ls (.ref x :: st) T v P) : EvP X d M pc ls (.ref a :: st) T v P :=
  ev_getf (k0 := 22) (ci := 12) pc hd (by rw [hM]; exact rfl) hk (by decide) (pm_rf hx) k
theorem gf_12_122 {X : pmX} {d : Nat} {M : pmM} {ls st : List Value} {T : pmT} {v : pmV} {P : Option Value → pmT → pmV → Prop} {pc : Nat} {a x : Nat} (hM : M.1 = 12) (hd : decode M.2.2.1 pc = .ok (.getfield 122, 3)) (hk : pmKind T a = 12) (hx : v.2.2 a 23 = some x) (k : EvP X d M (pc + 3) ls (.ref x :: st) T v P) : EvP X d M pc ls (.ref a :: st) T v P :=
  ev_getf (k0 := 23) (ci := 12) pc hd (by rw [hM]; exact rfl) hk (by decide) (pm_rf hx) k
theorem gf_12_125 {X : pmX} {d : Nat} {M : pmM} {ls st : List Value} {T : pmT} {v : pmV} {P : Option Value → pmT → pmV → Prop} {pc : Nat} {a x : Nat} (hM : M.1 = 12) (hd : decode M.2.2.1 pc = .ok (.getfield 125, 3)) (hk : pmKind T a = 12) (hx : v.2.2 a 24 = some x) (k : EvP X d M (pc + 3) ls (.ref x :: st) T v P) : EvP X d M pc ls (.ref a :: st) T v P :=
  ev_getf (k0 := 24) (ci := 12) pc hd (by rw [hM]; exact rfl) hk (by decide) (pm_rf hx) k
theorem gf_12_128 {X : pmX} {d : Nat} {M : pmM} {ls st : List Value} {T : pmT} {v : pmV} {P : Option Value → pmT → pmV → Prop} {pc : Nat} {a x : Nat} (hM : M.1 = 12) (hd : decode M.2.2.1 pc = .ok (.getfield 128, 3)) (hk : pmKind T a = 12) (hx : v.2.2 a 25 = some x) (k : EvP X d M (pc + 3) ls (.ref x :: st) T v P) : EvP X d M pc ls (.ref a :: st) T v P :=
  ev_getf (k0 := 25) (ci := 12) pc hd (by rw [hM]; exact rfl) hk (by decide) (pm_rf hx) k
theorem gf_12_131 {X : pmX} {d : Nat} {M : pmM} {ls st : List Value} {T : pmT} {v : pmV} {P : Option Value → pmT → pmV → Prop} {pc : Nat} {a x : Nat} (hM : M.1 = 12) (hd : decode M.2.2.1 pc = .ok (.getfield 131, 3)) (hk : pmKind T a = 12) (hx : v.2.2 a 26 = some x) (k : EvP X d M (pc + 3) ls (.ref x :: st) T v P) : EvP X d M pc ls (.ref a :: st) T v P :=
  ev_getf (k0 := 26) (ci := 12) pc hd (by rw [hM]; exact rfl) hk (by decide) (pm_rf hx) k
theorem gf_12_134 {X : pmX} {d : Nat} {M : pmM} {ls st : List Value} {T : pmT} {v : pmV} {P : Option Value → pmT → pmV → Prop} {pc : Nat} {a x : Nat} (hM : M.1 = 12) (hd : decode M.2.2.1 pc = .ok (.getfield 134, 3)) (hk : pmKind T a = 12) (hx : v.2.2 a 27 = some x) (k : EvP X d M (pc + 3) ls (.ref x :: st) T v P) : EvP X d M pc ls (.ref a :: st) T v P :=
  ev_getf (k0 := 27) (ci := 12) pc hd (by rw [hM]; exact rfl) hk (by decide) (pm_rf hx) k
theorem gf_12_137 {X : pmX} {d : Nat} {M : pmM} {ls st : List Value} {T : pmT} {v : pmV} {P : Option Value → pmT → pmV → Prop} {pc : Nat} {a x : Nat} (hM : M.1 = 12) (hd : decode M.2.2.1 pc = .ok (.getfield 137, 3)) (hk : pmKind T a = 12) (hx : v.2.2 a 28 = some x) (k : EvP X d M (pc + 3) ls (.ref x :: st) T v P) : EvP X d M pc ls (.ref a :: st) T v P :=
  ev_getf (k0 := 28) (ci := 12) pc hd (by rw [hM]; exact rfl) hk (by decide) (pm_rf hx) k
theorem gf_12_140 {X : pmX} {d : Nat} {M : pmM} {ls st : List Value} {T : pmT} {v : pmV} {P : Option Value → pmT → pmV → Prop} {pc : Nat} {a x : Nat} (hM : M.1 = 12) (hd : decode M.2.2.1 pc = .ok (.getfield 140, 3)) (hk : pmKind T a = 12) (hx : v.2.2 a 29 = some x) (k : EvP X d M (pc + 3) ls (.ref x :: st) T v P) : EvP X d M pc ls (.ref a :: st) T v P :=
  ev_getf (k0 := 29) (ci := 12) pc hd (by rw [hM]; exact rfl) hk (by decide) (pm_rf hx) k
theorem gf_12_143 {X : pmX} {d : Nat} {M : pmM} {ls st : List Value} {T : pmT} {v : pmV} {P : Option Value → pmT → pmV → Prop} {pc : Nat} {a x : Nat} (hM : M.1 = 12) (hd : decode M.2.2.1 pc = .ok (.getfield 143, 3)) (hk : pmKind T a = 12) (hx : v.2.2 a 30 = some x) (k : EvP X d M (pc + 3) ls (.ref x :: st) T v P) : EvP X d M pc ls (.ref a :: st) T v P :=
  ev_getf (k0 := 30) (ci := 12) pc hd (by rw [hM]; exact rfl) hk (by decide) (pm_rf hx) k
theorem gf_12_146 {X : pmX} {d : Nat} {M : pmM} {ls st : List Value} {T : pmT} {v : pmV} {P : Option Value → pmT → pmV → Prop} {pc : Nat} {a x : Nat} (hM : M.1 = 12) (hd : decode M.2.2.1 pc = .ok (.getfield 146, 3)) (hk : pmKind T a = 12) (hx : v.2.2 a 31 = some x) (k : EvP X d M (pc + 3) ls (.ref x :: st) T v P) : EvP X d M pc ls (.ref a :: st) T v P :=
  ev_getf (k0 := 31) (ci := 12) pc hd (by rw [hM]; exact rfl) hk (by decide) (pm_rf hx) k
theorem gf_12_149 {X : pmX} {d : Nat} {M : pmM} {ls st : List Value} {T : pmT} {v : pmV} {P : Option Value → pmT → pmV → Prop} {pc : Nat} {a : Nat} {x : Int32} (hM : M.1 = 12) (hd : decode M.2.2.1 pc = .ok (.getfield 149, 3)) (hk : pmKind T a = 12) (hx : v.1 a 32 = x) (k : EvP X d M (pc + 3) ls (.int x :: st) T v P) : EvP X d M pc ls (.ref a :: st) T v P :=
  ev_getf (k0 := 32) (ci := 12) pc hd (by rw [hM]; exact rfl) hk (by decide) (congrArg Value.int hx) k
theorem gf_12_152 {X : pmX} {d : Nat} {M : pmM} {ls st : List Value} {T : pmT} {v : pmV} {P : Option Value → pmT → pmV → Prop} {pc : Nat} {a : Nat} {x : Int32} (hM : M.1 = 12) (hd : decode M.2.2.1 pc = .ok (.getfield 152, 3)) (hk : pmKind T a = 12) (hx : v.1 a 33 = x) (k : EvP X d M (pc + 3) ls (.int x :: st) T v P) : EvP X d M pc ls (.ref a :: st) T v P :=
  ev_getf (k0 := 33) (ci := 12) pc hd (by rw [hM]; exact rfl) hk (by decide) (congrArg Value.int hx) k
theorem gf_12_155 {X : pmX} {d : Nat} {M : pmM} {ls st : List Value} {T : pmT} {v : pmV} {P : Option Value → pmT → pmV → Prop} {pc : Nat} {a : Nat} {x : Int32} (hM : M.1 = 12) (hd : decode M.2.2.1 pc = .ok (.getfield 155, 3)) (hk : pmKind T a = 12) (hx : v.1 a 34 = x) (k : EvP X d M (pc + 3) ls (.int x :: st) T v P) : EvP X d M pc ls (.ref a :: st) T v P :=
  ev_getf (k0 := 34) (ci := 12) pc hd (by rw [hM]; exact rfl) hk (by decide) (congrArg Value.int hx) k
theorem gf_12_158 {X : pmX} {d : Nat} {M : pmM} {ls st : List Value} {T : pmT} {v : pmV} {P : Option Value → pmT → pmV → Prop} {pc : Nat} {a : Nat} {x : Int32} (hM : M.1 = 12) (hd : decode M.2.2.1 pc = .ok (.getfield 158, 3)) (hk : pmKind T a = 12) (hx : v.1 a 35 = x) (k : EvP X d M (pc + 3) ls (.int x :: st) T v P) : EvP X d M pc ls (.ref a :: st) T v P :=
  ev_getf (k0 := 35) (ci := 12) pc hd (by rw [hM]; exact rfl) hk (by decide) (congrArg Value.int hx) k
theorem gf_12_161 {X : pmX} {d : Nat} {M : pmM} {ls st : List Value} {T : pmT} {v : pmV} {P : Option Value → pmT → pmV → Prop} {pc : Nat} {a : Nat} {x : Int32} (hM : M.1 = 12) (hd : decode M.2.2.1 pc = .ok (.getfield 161, 3)) (hk : pmKind T a = 12) (hx : v.1 a 36 = x) (k : EvP X d M (pc + 3) ls (.int x :: st) T v P) : EvP X d M pc ls (.ref a :: st) T v P :=
  ev_getf (k0 := 36) (ci := 12) pc hd (by rw [hM]; exact rfl) hk (by decide) (congrArg Value.int hx) k
theorem gf_12_164 {X : pmX} {d : Nat} {M : pmM} {ls st : List Value} {T : pmT} {v : pmV} {P : Option Value → pmT → pmV → Prop} {pc : Nat} {a : Nat} {x : Int32} (hM : M.1 = 12) (hd : decode M.2.2.1 pc = .ok (.getfield 164, 3)) (hk : pmKind T a = 12) (hx : v.1 a 37 = x) (k : EvP X d M (pc + 3) ls (.int x :: st) T v P) : EvP X d M pc ls (.ref a :: st) T v P :=
  ev_getf (k0 := 37) (ci := 12) pc hd (by rw [hM]; exact rfl) hk (by decide) (congrArg Value.int hx) k
theorem gf_12_167 {X : pmX} {d : Nat} {M : pmM} {ls st : List Value} {T : pmT} {v : pmV} {P : Option Value → pmT → pmV → Prop} {pc : Nat} {a : Nat} {x : Int32} (hM : M.1 = 12) (hd : decode M.2.2.1 pc = .ok (.getfield 167, 3)) (hk : pmKind T a = 12) (hx : v.1 a 38 = x) (k : EvP X d M (pc + 3) ls (.int x :: st) T v P) : EvP X d M pc ls (.ref a :: st) T v P :=
  ev_getf (k0 := 38) (ci := 12) pc hd (by rw [hM]; exact rfl) hk (by decide) (congrArg Value.int hx) k
theorem gf_12_170 {X : pmX} {d : Nat} {M : pmM} {ls st : List Value} {T : pmT} {v : pmV} {P : Option Value → pmT → pmV → Prop} {pc : Nat} {a : Nat} {x : Int32} (hM : M.1 = 12) (hd : decode M.2.2.1 pc = .ok (.getfield 170, 3)) (hk : pmKind T a = 12) (hx : v.1 a 39 = x) (k : EvP X d M (pc + 3) ls (.int x :: st) T v P) : EvP X d M pc ls (.ref a :: st) T v P :=
  ev_getf (k0 := 39) (ci := 12) pc hd (by rw [hM]; exact rfl) hk (by decide) (congrArg Value.int hx) k
theorem gf_12_173 {X : pmX} {d : Nat} {M : pmM} {ls st : List Value} {T : pmT} {v : pmV} {P : Option Value → pmT → pmV → Prop} {pc : Nat} {a : Nat} {x : Int64} (hM : M.1 = 12) (hd : decode M.2.2.1 pc = .ok (.getfield 173, 3)) (hk : pmKind T a = 12) (hx : v.2.1 a 40 = x) (k : EvP X d M (pc + 3) ls (.long x :: st) T v P) : EvP X d M pc ls (.ref a :: st) T v P :=
  ev_getf (k0 := 40) (ci := 12) pc hd (by rw [hM]; exact rfl) hk (by decide) (congrArg Value.long hx) k
theorem gf_12_177 {X : pmX} {d : Nat} {M : pmM} {ls st : List Value} {T : pmT} {v : pmV} {P : Option Value → pmT → pmV → Prop} {pc : Nat} {a : Nat} {x : Int32} (hM : M.1 = 12) (hd : decode M.2.2.1 pc = .ok (.getfield 177, 3)) (hk : pmKind T a = 12) (hx : v.1 a 41 = x) (k : EvP X d M (pc + 3) ls (.int x :: st) T v P) : EvP X d M pc ls (.ref a :: st) T v P :=
  ev_getf (k0 := 41) (ci := 12) pc hd (by rw [hM]; exact rfl) hk (by decide) (congrArg Value.int hx) k
theorem gf_12_181 {X : pmX} {d : Nat} {M : pmM} {ls st : List Value} {T : pmT} {v : pmV} {P : Option Value → pmT → pmV → Prop} {pc : Nat} {a : Nat} {x : Int32} (hM : M.1 = 12) (hd : decode M.2.2.1 pc = .ok (.getfield 181, 3)) (hk : pmKind T a = 12) (hx : v.1 a 42 = x) (k : EvP X d M (pc + 3) ls (.int x :: st) T v P) : EvP X d M pc ls (.ref a :: st) T v P :=
  ev_getf (k0 := 42) (ci := 12) pc hd (by rw [hM]; exact rfl) hk (by decide) (congrArg Value.int hx) k
theorem gf_12_184 {X : pmX} {d : Nat} {M : pmM} {ls st : List Value} {T : pmT} {v : pmV} {P : Option Value → pmT → pmV → Prop} {pc : Nat} {a : Nat} {x : Int32} (hM : M.1 = 12) (hd : decode M.2.2.1 pc = .ok (.getfield 184, 3)) (hk : pmKind T a = 12) (hx : v.1 a 43 = x) (k : EvP X d M (pc + 3) ls (.int x :: st) T v P) : EvP X d M pc ls (.ref a :: st) T v P :=
  ev_getf (k0 := 43) (ci := 12) pc hd (by rw [hM]; exact rfl) hk (by decide) (congrArg Value.int hx) k
theorem gf_12_187 {X : pmX} {d : Nat} {M : pmM} {ls st : List Value} {T : pmT} {v : pmV} {P : Option Value → pmT → pmV → Prop} {pc : Nat} {a : Nat} {x : Int32} (hM : M.1 = 12) (hd : decode M.2.2.1 pc = .ok (.getfield 187, 3)) (hk : pmKind T a = 12) (hx : v.1 a 44 = x) (k : EvP X d M (pc + 3) ls (.int x :: st) T v P) : EvP X d M pc ls (.ref a :: st) T v P :=
  ev_getf (k0 := 44) (ci := 12) pc hd (by rw [hM]; exact rfl) hk (by decide) (congrArg Value.int hx) k
theorem gf_12_190 {X : pmX} {d : Nat} {M : pmM} {ls st : List Value} {T : pmT} {v : pmV} {P : Option Value → pmT → pmV → Prop} {pc : Nat} {a : Nat} {x : Int32} (hM : M.1 = 12) (hd : decode M.2.2.1 pc = .ok (.getfield 190, 3)) (hk : pmKind T a = 12) (hx : v.1 a 45 = x) (k : EvP X d M (pc + 3) ls (.int x :: st) T v P) : EvP X d M pc ls (.ref a :: st) T v P :=
  ev_getf (k0 := 45) (ci := 12) pc hd (by rw [hM]; exact rfl) hk (by decide) (congrArg Value.int hx) k
theorem gf_12_193 {X : pmX} {d : Nat} {M : pmM} {ls st : List Value} {T : pmT} {v : pmV} {P : Option Value → pmT → pmV → Prop} {pc : Nat} {a : Nat} {x : Int32} (hM : M.1 = 12) (hd : decode M.2.2.1 pc = .ok (.getfield 193, 3)) (hk : pmKind T a = 12) (hx : v.1 a 46 = x) (k : EvP X d M (pc + 3) ls (.int x :: st) T v P) : EvP X d M pc ls (.ref a :: st) T v P :=
  ev_getf (k0 := 46) (ci := 12) pc hd (by rw [hM]; exact rfl) hk (by decide) (congrArg Value.int hx) k
theorem gf_12_196 {X : pmX} {d : Nat} {M : pmM} {ls st : List Value} {T : pmT} {v : pmV} {P : Option Value → pmT → pmV → Prop} {pc : Nat} {a x : Nat} (hM : M.1 = 12) (hd : decode M.2.2.1 pc = .ok (.getfield 196, 3)) (hk : pmKind T a = 12) (hx : v.2.2 a 47 = some x) (k : EvP X d M (pc + 3) ls (.ref x :: st) T v P) : EvP X d M pc ls (.ref a :: st) T v P :=
  ev_getf (k0 := 47) (ci := 12) pc hd (by rw [hM]; exact rfl) hk (by decide) (pm_rf hx) k
theorem gf_12_199 {X : pmX} {d : Nat} {M : pmM} {ls st : List Value} {T : pmT} {v : pmV} {P : Option Value → pmT → pmV → Prop} {pc : Nat} {a x : Nat} (hM : M.1 = 12) (hd : decode M.2.2.1 pc = .ok (.getfield 199, 3)) (hk : pmKind T a = 12) (hx : v.2.2 a 48 = some x) (k : EvP X d M (pc + 3) ls (.ref x :: st) T v P) : EvP X d M pc ls (.ref a :: st) T v P :=
  ev_getf (k0 := 48) (ci := 12) pc hd (by rw [hM]; exact rfl) hk (by decide) (pm_rf hx) k
theorem gf_12_202 {X : pmX} {d : Nat} {M : pmM} {ls st : List Value} {T : pmT} {v : pmV} {P : Option Value → pmT → pmV → Prop} {pc : Nat} {a x : Nat} (hM : M.1 = 12) (hd : decode M.2.2.1 pc = .ok (.getfield 202, 3)) (hk : pmKind T a = 12) (hx : v.2.2 a 52 = some x) (k : EvP X d M (pc + 3) ls (.ref x :: st) T v P) : EvP X d M pc ls (.ref a :: st) T v P :=
  ev_getf (k0 := 52) (ci := 12) pc hd (by rw [hM]; exact rfl) hk (by decide) (pm_rf hx) k
theorem cp_0_1 {X : pmX} {d : Nat} {M : pmM} {ls r : List Value} {T : pmT} {v : pmV} {P : Option Value → pmT → pmV → Prop} {pc : Nat} {a ci : Nat} {x0 : Int32} {x1 : Int32} {x2 : Int32} (hM : M.1 = 0) (hd : decode M.2.2.1 pc = .ok (.invokespecial 1, 3)) (hkd : pmKind T a = ci) (hn : pmNum r ≤ 8) (hci : ci < 13 := by decide) (k : EvP X d MX3_init 0 [.ref a, .int x0, .int x1, .int x2] [] T v (fun o T' v' => EvP X (d + 1) M (pc + 3) ls (pmPush o r) T' v' P)) : EvP X (d + 1) M pc ls (.int x2 :: .int x1 :: .int x0 :: .ref a :: r) T v P :=
  ev_callI (as := [.int x0, .int x1, .int x2]) pc hd (by rw [hM]; exact rfl) (by rw [hM]; exact rfl) hkd hci pl_20 rfl hn (Nat.le_of_ble_eq_true rfl) rfl k
theorem ob_1_3 : pmAt pmObL (1, 3) = some 209 := rfl
theorem cp_1_19 {X : pmX} {d : Nat} {M : pmM} {ls r : List Value} {T : pmT} {v : pmV} {P : Option Value → pmT → pmV → Prop} {pc : Nat} {a ci : Nat}  (hM : M.1 = 1) (hd : decode M.2.2.1 pc = .ok (.invokespecial 19, 3)) (hkd : pmKind T a = ci) (hn : pmNum r ≤ 8) (hci : ci < 13 := by decide) (k : EvP X d MX5_init 0 [.ref a] [] T v (fun o T' v' => EvP X (d + 1) M (pc + 3) ls (pmPush o r) T' v' P)) : EvP X (d + 1) M pc ls (.ref a :: r) T v P :=
  ev_callI (as := []) pc hd (by rw [hM]; exact rfl) (by rw [hM]; exact rfl) hkd hci pl_52 rfl hn (Nat.le_of_ble_eq_true rfl) rfl k
theorem cp_1_26 {X : pmX} {d : Nat} {M : pmM} {ls r : List Value} {T : pmT} {v : pmV} {P : Option Value → pmT → pmV → Prop} {pc : Nat} {a ci : Nat}  (hM : M.1 = 1) (hd : decode M.2.2.1 pc = .ok (.invokespecial 26, 3)) (hkd : pmKind T a = ci) (hn : pmNum r ≤ 8) (hci : ci < 13 := by decide) (k : EvP X d MX9_init 0 [.ref a] [] T v (fun o T' v' => EvP X (d + 1) M (pc + 3) ls (pmPush o r) T' v' P)) : EvP X (d + 1) M pc ls (.ref a :: r) T v P :=
  ev_callI (as := []) pc hd (by rw [hM]; exact rfl) (by rw [hM]; exact rfl) hkd hci pl_69 rfl hn (Nat.le_of_ble_eq_true rfl) rfl k
theorem cp_2_1 {X : pmX} {d : Nat} {M : pmM} {ls r : List Value} {T : pmT} {v : pmV} {P : Option Value → pmT → pmV → Prop} {pc : Nat} {a ci : Nat} {x0 : Int32} {x1 : Int32} {x2 : Int32} (hM : M.1 = 2) (hd : decode M.2.2.1 pc = .ok (.invokespecial 1, 3)) (hkd : pmKind T a = ci) (hn : pmNum r ≤ 8) (hci : ci < 13 := by decide) (k : EvP X d MX3_init 0 [.ref a, .int x0, .int x1, .int x2] [] T v (fun o T' v' => EvP X (d + 1) M (pc + 3) ls (pmPush o r) T' v' P)) : EvP X (d + 1) M pc ls (.int x2 :: .int x1 :: .int x0 :: .ref a :: r) T v P :=
  ev_callI (as := [.int x0, .int x1, .int x2]) pc hd (by rw [hM]; exact rfl) (by rw [hM]; exact rfl) hkd hci pl_20 rfl hn (Nat.le_of_ble_eq_true rfl) rfl k
theorem ob_3_1 : pmAt pmObL (3, 1) = some 570 := rfl
theorem ob_4_3 : pmAt pmObL (4, 3) = some 157 := rfl
theorem cp_4_26 {X : pmX} {d : Nat} {M : pmM} {ls r : List Value} {T : pmT} {v : pmV} {P : Option Value → pmT → pmV → Prop} {pc : Nat} {a ci : Nat}  (hM : M.1 = 4) (hd : decode M.2.2.1 pc = .ok (.invokespecial 26, 3)) (hkd : pmKind T a = ci) (hn : pmNum r ≤ 8) (hci : ci < 13 := by decide) (k : EvP X d MX9_init 0 [.ref a] [] T v (fun o T' v' => EvP X (d + 1) M (pc + 3) ls (pmPush o r) T' v' P)) : EvP X (d + 1) M pc ls (.ref a :: r) T v P :=
  ev_callI (as := []) pc hd (by rw [hM]; exact rfl) (by rw [hM]; exact rfl) hkd hci pl_69 rfl hn (Nat.le_of_ble_eq_true rfl) rfl k
theorem ob_5_3 : pmAt pmObL (5, 3) = some 116 := rfl
theorem ob_6_3 : pmAt pmObL (6, 3) = some 284 := rfl
theorem cp_7_1 {X : pmX} {d : Nat} {M : pmM} {ls r : List Value} {T : pmT} {v : pmV} {P : Option Value → pmT → pmV → Prop} {pc : Nat} {a ci : Nat} {x0 : Int32} {x1 : Int32} {x2 : Int32} (hM : M.1 = 7) (hd : decode M.2.2.1 pc = .ok (.invokespecial 1, 3)) (hkd : pmKind T a = ci) (hn : pmNum r ≤ 8) (hci : ci < 13 := by decide) (k : EvP X d MX10_init 0 [.ref a, .int x0, .int x1, .int x2] [] T v (fun o T' v' => EvP X (d + 1) M (pc + 3) ls (pmPush o r) T' v' P)) : EvP X (d + 1) M pc ls (.int x2 :: .int x1 :: .int x0 :: .ref a :: r) T v P :=
  ev_callI (as := [.int x0, .int x1, .int x2]) pc hd (by rw [hM]; exact rfl) (by rw [hM]; exact rfl) hkd hci pl_73 rfl hn (Nat.le_of_ble_eq_true rfl) rfl k
theorem cp_7_7 {X : pmX} {d : Nat} {M : pmM} {ls r : List Value} {T : pmT} {v : pmV} {P : Option Value → pmT → pmV → Prop} {pc : Nat} {a ci : Nat} {x0 : Int32} (hM : M.1 = 7) (hd : decode M.2.2.1 pc = .ok (.invokespecial 7, 3)) (hkd : pmKind T a = ci) (hn : pmNum r ≤ 8) (hci : ci < 13 := by decide) (k : EvP X d MX10_carries 0 [.ref a, .int x0] [] T v (fun o T' v' => EvP X (d + 1) M (pc + 3) ls (pmPush o r) T' v' P)) : EvP X (d + 1) M pc ls (.int x0 :: .ref a :: r) T v P :=
  ev_callI (as := [.int x0]) pc hd (by rw [hM]; exact rfl) (by rw [hM]; exact rfl) hkd hci pl_74 rfl hn (Nat.le_of_ble_eq_true rfl) rfl k
theorem cp_8_1 {X : pmX} {d : Nat} {M : pmM} {ls r : List Value} {T : pmT} {v : pmV} {P : Option Value → pmT → pmV → Prop} {pc : Nat} {a ci : Nat} {x0 : Int32} {x1 : Int32} {x2 : Int32} (hM : M.1 = 8) (hd : decode M.2.2.1 pc = .ok (.invokespecial 1, 3)) (hkd : pmKind T a = ci) (hn : pmNum r ≤ 8) (hci : ci < 13 := by decide) (k : EvP X d MX0_init 0 [.ref a, .int x0, .int x1, .int x2] [] T v (fun o T' v' => EvP X (d + 1) M (pc + 3) ls (pmPush o r) T' v' P)) : EvP X (d + 1) M pc ls (.int x2 :: .int x1 :: .int x0 :: .ref a :: r) T v P :=
  ev_callI (as := [.int x0, .int x1, .int x2]) pc hd (by rw [hM]; exact rfl) (by rw [hM]; exact rfl) hkd hci pl_0 rfl hn (Nat.le_of_ble_eq_true rfl) rfl k
theorem cp_8_7 {X : pmX} {d : Nat} {M : pmM} {ls r : List Value} {T : pmT} {v : pmV} {P : Option Value → pmT → pmV → Prop} {pc : Nat} {a ci : Nat} {x0 : Int32} (hM : M.1 = 8) (hd : decode M.2.2.1 pc = .ok (.invokespecial 7, 3)) (hkd : pmKind T a = ci) (hn : pmNum r ≤ 8) (hci : ci < 13 := by decide) (k : EvP X d MX3_carries 0 [.ref a, .int x0] [] T v (fun o T' v' => EvP X (d + 1) M (pc + 3) ls (pmPush o r) T' v' P)) : EvP X (d + 1) M pc ls (.int x0 :: .ref a :: r) T v P :=
  ev_callI (as := [.int x0]) pc hd (by rw [hM]; exact rfl) (by rw [hM]; exact rfl) hkd hci pl_21 rfl hn (Nat.le_of_ble_eq_true rfl) rfl k
theorem cp_8_17 {X : pmX} {d : Nat} {M : pmM} {ls r : List Value} {T : pmT} {v : pmV} {P : Option Value → pmT → pmV → Prop} {pc : Nat} {a ci : Nat} {x0 : Int32} (hM : M.1 = 8) (hd : decode M.2.2.1 pc = .ok (.invokespecial 17, 3)) (hkd : pmKind T a = ci) (hn : pmNum r ≤ 8) (hci : ci < 13 := by decide) (k : EvP X d MX3_rests 0 [.ref a, .int x0] [] T v (fun o T' v' => EvP X (d + 1) M (pc + 3) ls (pmPush o r) T' v' P)) : EvP X (d + 1) M pc ls (.int x0 :: .ref a :: r) T v P :=
  ev_callI (as := [.int x0]) pc hd (by rw [hM]; exact rfl) (by rw [hM]; exact rfl) hkd hci pl_24 rfl hn (Nat.le_of_ble_eq_true rfl) rfl k
theorem ob_9_3 : pmAt pmObL (9, 3) = some 163 := rfl
theorem cp_10_1 {X : pmX} {d : Nat} {M : pmM} {ls r : List Value} {T : pmT} {v : pmV} {P : Option Value → pmT → pmV → Prop} {pc : Nat} {a ci : Nat} {x0 : Int32} {x1 : Int32} {x2 : Int32} (hM : M.1 = 10) (hd : decode M.2.2.1 pc = .ok (.invokespecial 1, 3)) (hkd : pmKind T a = ci) (hn : pmNum r ≤ 8) (hci : ci < 13 := by decide) (k : EvP X d MX3_init 0 [.ref a, .int x0, .int x1, .int x2] [] T v (fun o T' v' => EvP X (d + 1) M (pc + 3) ls (pmPush o r) T' v' P)) : EvP X (d + 1) M pc ls (.int x2 :: .int x1 :: .int x0 :: .ref a :: r) T v P :=
  ev_callI (as := [.int x0, .int x1, .int x2]) pc hd (by rw [hM]; exact rfl) (by rw [hM]; exact rfl) hkd hci pl_20 rfl hn (Nat.le_of_ble_eq_true rfl) rfl k
theorem cp_10_7 {X : pmX} {d : Nat} {M : pmM} {ls r : List Value} {T : pmT} {v : pmV} {P : Option Value → pmT → pmV → Prop} {pc : Nat} {a ci : Nat} {x0 : Int32} (hM : M.1 = 10) (hd : decode M.2.2.1 pc = .ok (.invokespecial 7, 3)) (hkd : pmKind T a = ci) (hn : pmNum r ≤ 8) (hci : ci < 13 := by decide) (k : EvP X d MX3_carries 0 [.ref a, .int x0] [] T v (fun o T' v' => EvP X (d + 1) M (pc + 3) ls (pmPush o r) T' v' P)) : EvP X (d + 1) M pc ls (.int x0 :: .ref a :: r) T v P :=
  ev_callI (as := [.int x0]) pc hd (by rw [hM]; exact rfl) (by rw [hM]; exact rfl) hkd hci pl_21 rfl hn (Nat.le_of_ble_eq_true rfl) rfl k
theorem cp_10_11 {X : pmX} {d : Nat} {M : pmM} {ls r : List Value} {T : pmT} {v : pmV} {P : Option Value → pmT → pmV → Prop} {pc : Nat} {a ci : Nat} {x0 : Int32} (hM : M.1 = 10) (hd : decode M.2.2.1 pc = .ok (.invokespecial 11, 3)) (hkd : pmKind T a = ci) (hn : pmNum r ≤ 8) (hci : ci < 13 := by decide) (k : EvP X d MX3_rests 0 [.ref a, .int x0] [] T v (fun o T' v' => EvP X (d + 1) M (pc + 3) ls (pmPush o r) T' v' P)) : EvP X (d + 1) M pc ls (.int x0 :: .ref a :: r) T v P :=
  ev_callI (as := [.int x0]) pc hd (by rw [hM]; exact rfl) (by rw [hM]; exact rfl) hkd hci pl_24 rfl hn (Nat.le_of_ble_eq_true rfl) rfl k
theorem ob_11_1 : pmAt pmObL (11, 1) = some 106 := rfl
theorem cp_11_17 {X : pmX} {d : Nat} {M : pmM} {ls r : List Value} {T : pmT} {v : pmV} {P : Option Value → pmT → pmV → Prop} {pc : Nat} {a ci : Nat}  (hM : M.1 = 11) (hd : decode M.2.2.1 pc = .ok (.invokespecial 17, 3)) (hkd : pmKind T a = ci) (hn : pmNum r ≤ 8) (hci : ci < 13 := by decide) (k : EvP X d MX5_init 0 [.ref a] [] T v (fun o T' v' => EvP X (d + 1) M (pc + 3) ls (pmPush o r) T' v' P)) : EvP X (d + 1) M pc ls (.ref a :: r) T v P :=
  ev_callI (as := []) pc hd (by rw [hM]; exact rfl) (by rw [hM]; exact rfl) hkd hci pl_52 rfl hn (Nat.le_of_ble_eq_true rfl) rfl k
theorem cp_11_33 {X : pmX} {d : Nat} {M : pmM} {ls r : List Value} {T : pmT} {v : pmV} {P : Option Value → pmT → pmV → Prop} {pc : Nat} {a ci : Nat}  (hM : M.1 = 11) (hd : decode M.2.2.1 pc = .ok (.invokespecial 33, 3)) (hkd : pmKind T a = ci) (hn : pmNum r ≤ 8) (hci : ci < 13 := by decide) (k : EvP X d MX4_init 0 [.ref a] [] T v (fun o T' v' => EvP X (d + 1) M (pc + 3) ls (pmPush o r) T' v' P)) : EvP X (d + 1) M pc ls (.ref a :: r) T v P :=
  ev_callI (as := []) pc hd (by rw [hM]; exact rfl) (by rw [hM]; exact rfl) hkd hci pl_25 rfl hn (Nat.le_of_ble_eq_true rfl) rfl k
theorem cp_11_46 {X : pmX} {d : Nat} {M : pmM} {ls r : List Value} {T : pmT} {v : pmV} {P : Option Value → pmT → pmV → Prop} {pc : Nat} {a ci : Nat}  (hM : M.1 = 11) (hd : decode M.2.2.1 pc = .ok (.invokespecial 46, 3)) (hkd : pmKind T a = ci) (hn : pmNum r ≤ 8) (hci : ci < 13 := by decide) (k : EvP X d MX1_init 0 [.ref a] [] T v (fun o T' v' => EvP X (d + 1) M (pc + 3) ls (pmPush o r) T' v' P)) : EvP X (d + 1) M pc ls (.ref a :: r) T v P :=
  ev_callI (as := []) pc hd (by rw [hM]; exact rfl) (by rw [hM]; exact rfl) hkd hci pl_2 rfl hn (Nat.le_of_ble_eq_true rfl) rfl k
theorem cp_11_55 {X : pmX} {d : Nat} {M : pmM} {ls r : List Value} {T : pmT} {v : pmV} {P : Option Value → pmT → pmV → Prop} {pc : Nat} {a ci : Nat}  (hM : M.1 = 11) (hd : decode M.2.2.1 pc = .ok (.invokespecial 55, 3)) (hkd : pmKind T a = ci) (hn : pmNum r ≤ 8) (hci : ci < 13 := by decide) (k : EvP X d MX9_init 0 [.ref a] [] T v (fun o T' v' => EvP X (d + 1) M (pc + 3) ls (pmPush o r) T' v' P)) : EvP X (d + 1) M pc ls (.ref a :: r) T v P :=
  ev_callI (as := []) pc hd (by rw [hM]; exact rfl) (by rw [hM]; exact rfl) hkd hci pl_69 rfl hn (Nat.le_of_ble_eq_true rfl) rfl k
theorem cp_11_56 {X : pmX} {d : Nat} {M : pmM} {ls r : List Value} {T : pmT} {v : pmV} {P : Option Value → pmT → pmV → Prop} {pc : Nat} {a ci : Nat}  (hM : M.1 = 11) (hd : decode M.2.2.1 pc = .ok (.invokespecial 56, 3)) (hkd : pmKind T a = ci) (hn : pmNum r ≤ 8) (hci : ci < 13 := by decide) (k : EvP X d MX6_init 0 [.ref a] [] T v (fun o T' v' => EvP X (d + 1) M (pc + 3) ls (pmPush o r) T' v' P)) : EvP X (d + 1) M pc ls (.ref a :: r) T v P :=
  ev_callI (as := []) pc hd (by rw [hM]; exact rfl) (by rw [hM]; exact rfl) hkd hci pl_56 rfl hn (Nat.le_of_ble_eq_true rfl) rfl k
theorem cp_11_272 {X : pmX} {d : Nat} {M : pmM} {ls r : List Value} {T : pmT} {v : pmV} {P : Option Value → pmT → pmV → Prop} {pc : Nat} {a ci : Nat} {x0 : Int32} {x1 : Int32} {x2 : Int32} (hM : M.1 = 11) (hd : decode M.2.2.1 pc = .ok (.invokespecial 272, 3)) (hkd : pmKind T a = ci) (hn : pmNum r ≤ 8) (hci : ci < 13 := by decide) (k : EvP X d MX10_init 0 [.ref a, .int x0, .int x1, .int x2] [] T v (fun o T' v' => EvP X (d + 1) M (pc + 3) ls (pmPush o r) T' v' P)) : EvP X (d + 1) M pc ls (.int x2 :: .int x1 :: .int x0 :: .ref a :: r) T v P :=
  ev_callI (as := [.int x0, .int x1, .int x2]) pc hd (by rw [hM]; exact rfl) (by rw [hM]; exact rfl) hkd hci pl_73 rfl hn (Nat.le_of_ble_eq_true rfl) rfl k
theorem cp_11_276 {X : pmX} {d : Nat} {M : pmM} {ls r : List Value} {T : pmT} {v : pmV} {P : Option Value → pmT → pmV → Prop} {pc : Nat} {a ci : Nat} {x0 : Int32} {x1 : Int32} {x2 : Int32} (hM : M.1 = 11) (hd : decode M.2.2.1 pc = .ok (.invokespecial 276, 3)) (hkd : pmKind T a = ci) (hn : pmNum r ≤ 8) (hci : ci < 13 := by decide) (k : EvP X d MX0_init 0 [.ref a, .int x0, .int x1, .int x2] [] T v (fun o T' v' => EvP X (d + 1) M (pc + 3) ls (pmPush o r) T' v' P)) : EvP X (d + 1) M pc ls (.int x2 :: .int x1 :: .int x0 :: .ref a :: r) T v P :=
  ev_callI (as := [.int x0, .int x1, .int x2]) pc hd (by rw [hM]; exact rfl) (by rw [hM]; exact rfl) hkd hci pl_0 rfl hn (Nat.le_of_ble_eq_true rfl) rfl k
theorem cp_11_279 {X : pmX} {d : Nat} {M : pmM} {ls r : List Value} {T : pmT} {v : pmV} {P : Option Value → pmT → pmV → Prop} {pc : Nat} {a ci : Nat} {x0 : Int32} {x1 : Int32} {x2 : Int32} (hM : M.1 = 11) (hd : decode M.2.2.1 pc = .ok (.invokespecial 279, 3)) (hkd : pmKind T a = ci) (hn : pmNum r ≤ 8) (hci : ci < 13 := by decide) (k : EvP X d MX7_init 0 [.ref a, .int x0, .int x1, .int x2] [] T v (fun o T' v' => EvP X (d + 1) M (pc + 3) ls (pmPush o r) T' v' P)) : EvP X (d + 1) M pc ls (.int x2 :: .int x1 :: .int x0 :: .ref a :: r) T v P :=
  ev_callI (as := [.int x0, .int x1, .int x2]) pc hd (by rw [hM]; exact rfl) (by rw [hM]; exact rfl) hkd hci pl_63 rfl hn (Nat.le_of_ble_eq_true rfl) rfl k
theorem cp_11_282 {X : pmX} {d : Nat} {M : pmM} {ls r : List Value} {T : pmT} {v : pmV} {P : Option Value → pmT → pmV → Prop} {pc : Nat} {a ci : Nat} {x0 : Int32} {x1 : Int32} {x2 : Int32} (hM : M.1 = 11) (hd : decode M.2.2.1 pc = .ok (.invokespecial 282, 3)) (hkd : pmKind T a = ci) (hn : pmNum r ≤ 8) (hci : ci < 13 := by decide) (k : EvP X d MX8_init 0 [.ref a, .int x0, .int x1, .int x2] [] T v (fun o T' v' => EvP X (d + 1) M (pc + 3) ls (pmPush o r) T' v' P)) : EvP X (d + 1) M pc ls (.int x2 :: .int x1 :: .int x0 :: .ref a :: r) T v P :=
  ev_callI (as := [.int x0, .int x1, .int x2]) pc hd (by rw [hM]; exact rfl) (by rw [hM]; exact rfl) hkd hci pl_65 rfl hn (Nat.le_of_ble_eq_true rfl) rfl k
theorem cp_11_285 {X : pmX} {d : Nat} {M : pmM} {ls r : List Value} {T : pmT} {v : pmV} {P : Option Value → pmT → pmV → Prop} {pc : Nat} {a ci : Nat} {x0 : Int32} {x1 : Int32} {x2 : Int32} (hM : M.1 = 11) (hd : decode M.2.2.1 pc = .ok (.invokespecial 285, 3)) (hkd : pmKind T a = ci) (hn : pmNum r ≤ 8) (hci : ci < 13 := by decide) (k : EvP X d MX2_init 0 [.ref a, .int x0, .int x1, .int x2] [] T v (fun o T' v' => EvP X (d + 1) M (pc + 3) ls (pmPush o r) T' v' P)) : EvP X (d + 1) M pc ls (.int x2 :: .int x1 :: .int x0 :: .ref a :: r) T v P :=
  ev_callI (as := [.int x0, .int x1, .int x2]) pc hd (by rw [hM]; exact rfl) (by rw [hM]; exact rfl) hkd hci pl_18 rfl hn (Nat.le_of_ble_eq_true rfl) rfl k
theorem cp_11_286 {X : pmX} {d : Nat} {M : pmM} {ls r : List Value} {T : pmT} {v : pmV} {P : Option Value → pmT → pmV → Prop} {pc : Nat} {a ci : Nat} {x0 : Int32} {x1 : Int32} {x2 : Int32} (hM : M.1 = 11) (hd : decode M.2.2.1 pc = .ok (.invokespecial 286, 3)) (hkd : pmKind T a = ci) (hn : pmNum r ≤ 8) (hci : ci < 13 := by decide) (k : EvP X d MX3_init 0 [.ref a, .int x0, .int x1, .int x2] [] T v (fun o T' v' => EvP X (d + 1) M (pc + 3) ls (pmPush o r) T' v' P)) : EvP X (d + 1) M pc ls (.int x2 :: .int x1 :: .int x0 :: .ref a :: r) T v P :=
  ev_callI (as := [.int x0, .int x1, .int x2]) pc hd (by rw [hM]; exact rfl) (by rw [hM]; exact rfl) hkd hci pl_20 rfl hn (Nat.le_of_ble_eq_true rfl) rfl k
theorem ob_12_77 : pmAt pmObL (12, 77) = some 1025 := rfl
theorem cp_40_9 {X : pmX} {d : Nat} {M : pmM} {ls r : List Value} {T : pmT} {v : pmV} {P : Option Value → pmT → pmV → Prop} {pc : Nat} {a ci : Nat}  (hM : M.1 = 40) (hd : decode M.2.2.1 pc = .ok (.invokespecial 9, 3)) (hkd : pmKind T a = ci) (hn : pmNum r ≤ 8) (hci : ci < 13 := by decide) (k : EvP X d MX11_init 0 [.ref a, pmJ] [] T v (fun o T' v' => EvP X (d + 1) M (pc + 3) ls (pmPush o r) T' v' P)) : EvP X (d + 1) M pc ls (.ref a :: r) T v P :=
  ev_callI (as := []) pc hd (by rw [hM]; exact rfl) (by rw [hM]; exact rfl) hkd hci pl_76 rfl hn (Nat.le_of_ble_eq_true rfl) rfl k
theorem cp_40_12 {X : pmX} {d : Nat} {M : pmM} {ls r : List Value} {T : pmT} {v : pmV} {P : Option Value → pmT → pmV → Prop} {pc : Nat} {a ci : Nat}  (hM : M.1 = 40) (hd : decode M.2.2.1 pc = .ok (.invokespecial 12, 3)) (hkd : pmKind T a = ci) (hn : pmNum r ≤ 8) (hci : ci < 13 := by decide) (k : EvP X d MX12_init 0 [.ref a] [] T v (fun o T' v' => EvP X (d + 1) M (pc + 3) ls (pmPush o r) T' v' P)) : EvP X (d + 1) M pc ls (.ref a :: r) T v P :=
  ev_callI (as := []) pc hd (by rw [hM]; exact rfl) (by rw [hM]; exact rfl) hkd hci pl_128 rfl hn (Nat.le_of_ble_eq_true rfl) rfl k
theorem mn_1_55 : pmAt pmMnL (1, 55) = some 763 := rfl
theorem mn0_1_55 : pmAt pmMxL (1, 55) = none := rfl
theorem cs_1_65 {X : pmX} {d : Nat} {M : pmM} {ls r : List Value} {T : pmT} {v : pmV} {P : Option Value → pmT → pmV → Prop} {pc : Nat} {x0 : Nat} {x1 : Int32} (hM : M.1 = 1) (hd : decode M.2.2.1 pc = .ok (.invokestatic 65, 3)) (hn : pmNum r ≤ 8) (k : EvP X d MJ7_fill_53178 0 [.ref x0, .int x1, pmJ, pmJ] [] T v (fun o T' v' => EvP X (d + 1) M (pc + 3) ls (pmPush o r) T' v' P)) : EvP X (d + 1) M pc ls (.int x1 :: .ref x0 :: r) T v P :=
  ev_callS (as := [.ref x0, .int x1]) pc hd (by rw [hM]; exact rfl) (by rw [hM]; exact rfl) (by rw [hM]; exact rfl) (by rw [hM]; exact rfl) pl_193 rfl hn (Nat.le_of_ble_eq_true rfl) rfl k
theorem cs_1_135 {X : pmX} {d : Nat} {M : pmM} {ls r : List Value} {T : pmT} {v : pmV} {P : Option Value → pmT → pmV → Prop} {pc : Nat} {x0 : Int32} {x1 : Int32} (hM : M.1 = 1) (hd : decode M.2.2.1 pc = .ok (.invokestatic 135, 3)) (hn : pmNum r ≤ 8) (k : EvP X d MX11_placeOf 0 [.int x0, .int x1] [] T v (fun o T' v' => EvP X (d + 1) M (pc + 3) ls (pmPush o r) T' v' P)) : EvP X (d + 1) M pc ls (.int x1 :: .int x0 :: r) T v P :=
  ev_callS (as := [.int x0, .int x1]) pc hd (by rw [hM]; exact rfl) (by rw [hM]; exact rfl) (by rw [hM]; exact rfl) (by rw [hM]; exact rfl) pl_101 rfl hn (Nat.le_of_ble_eq_true rfl) rfl k
theorem cs_1_142 {X : pmX} {d : Nat} {M : pmM} {ls r : List Value} {T : pmT} {v : pmV} {P : Option Value → pmT → pmV → Prop} {pc : Nat} {x0 : Int32} {x1 : Int32} {x2 : Int32} (hM : M.1 = 1) (hd : decode M.2.2.1 pc = .ok (.invokestatic 142, 3)) (hn : pmNum r ≤ 8) (k : EvP X d MX1_within 0 [.int x0, .int x1, .int x2] [] T v (fun o T' v' => EvP X (d + 1) M (pc + 3) ls (pmPush o r) T' v' P)) : EvP X (d + 1) M pc ls (.int x2 :: .int x1 :: .int x0 :: r) T v P :=
  ev_callS (as := [.int x0, .int x1, .int x2]) pc hd (by rw [hM]; exact rfl) (by rw [hM]; exact rfl) (by rw [hM]; exact rfl) (by rw [hM]; exact rfl) pl_17 rfl hn (Nat.le_of_ble_eq_true rfl) rfl k
theorem mx_1_148 : pmAt pmMxL (1, 148) = some 804 := rfl
theorem cs_1_157 {X : pmX} {d : Nat} {M : pmM} {ls r : List Value} {T : pmT} {v : pmV} {P : Option Value → pmT → pmV → Prop} {pc : Nat} {x0 : Int32} {x1 : Int32} {x2 : Int32} (hM : M.1 = 1) (hd : decode M.2.2.1 pc = .ok (.invokestatic 157, 3)) (hn : pmNum r ≤ 8) (k : EvP X d MX11_isIn 0 [.int x0, .int x1, .int x2] [] T v (fun o T' v' => EvP X (d + 1) M (pc + 3) ls (pmPush o r) T' v' P)) : EvP X (d + 1) M pc ls (.int x2 :: .int x1 :: .int x0 :: r) T v P :=
  ev_callS (as := [.int x0, .int x1, .int x2]) pc hd (by rw [hM]; exact rfl) (by rw [hM]; exact rfl) (by rw [hM]; exact rfl) (by rw [hM]; exact rfl) pl_100 rfl hn (Nat.le_of_ble_eq_true rfl) rfl k
theorem cs_4_69 {X : pmX} {d : Nat} {M : pmM} {ls r : List Value} {T : pmT} {v : pmV} {P : Option Value → pmT → pmV → Prop} {pc : Nat} {x0 : Int32} (hM : M.1 = 4) (hd : decode M.2.2.1 pc = .ok (.invokestatic 69, 3)) (hn : pmNum r ≤ 8) (k : EvP X d MX4_isBlank 0 [.int x0] [] T v (fun o T' v' => EvP X (d + 1) M (pc + 3) ls (pmPush o r) T' v' P)) : EvP X (d + 1) M pc ls (.int x0 :: r) T v P :=
  ev_callS (as := [.int x0]) pc hd (by rw [hM]; exact rfl) (by rw [hM]; exact rfl) (by rw [hM]; exact rfl) (by rw [hM]; exact rfl) pl_37 rfl hn (Nat.le_of_ble_eq_true rfl) rfl k
theorem cs_4_76 {X : pmX} {d : Nat} {M : pmM} {ls r : List Value} {T : pmT} {v : pmV} {P : Option Value → pmT → pmV → Prop} {pc : Nat} {x0 : Int32} {x1 : Int32} (hM : M.1 = 4) (hd : decode M.2.2.1 pc = .ok (.invokestatic 76, 3)) (hn : pmNum r ≤ 8) (k : EvP X d MX4_isOneWord 0 [.int x0, .int x1] [] T v (fun o T' v' => EvP X (d + 1) M (pc + 3) ls (pmPush o r) T' v' P)) : EvP X (d + 1) M pc ls (.int x1 :: .int x0 :: r) T v P :=
  ev_callS (as := [.int x0, .int x1]) pc hd (by rw [hM]; exact rfl) (by rw [hM]; exact rfl) (by rw [hM]; exact rfl) (by rw [hM]; exact rfl) pl_31 rfl hn (Nat.le_of_ble_eq_true rfl) rfl k
theorem cs_4_80 {X : pmX} {d : Nat} {M : pmM} {ls r : List Value} {T : pmT} {v : pmV} {P : Option Value → pmT → pmV → Prop} {pc : Nat} {x0 : Int32} (hM : M.1 = 4) (hd : decode M.2.2.1 pc = .ok (.invokestatic 80, 3)) (hn : pmNum r ≤ 8) (k : EvP X d MX4_isLetter 0 [.int x0] [] T v (fun o T' v' => EvP X (d + 1) M (pc + 3) ls (pmPush o r) T' v' P)) : EvP X (d + 1) M pc ls (.int x0 :: r) T v P :=
  ev_callS (as := [.int x0]) pc hd (by rw [hM]; exact rfl) (by rw [hM]; exact rfl) (by rw [hM]; exact rfl) (by rw [hM]; exact rfl) pl_38 rfl hn (Nat.le_of_ble_eq_true rfl) rfl k
theorem cs_4_83 {X : pmX} {d : Nat} {M : pmM} {ls r : List Value} {T : pmT} {v : pmV} {P : Option Value → pmT → pmV → Prop} {pc : Nat} {x0 : Int32} (hM : M.1 = 4) (hd : decode M.2.2.1 pc = .ok (.invokestatic 83, 3)) (hn : pmNum r ≤ 8) (k : EvP X d MX4_isDigit 0 [.int x0] [] T v (fun o T' v' => EvP X (d + 1) M (pc + 3) ls (pmPush o r) T' v' P)) : EvP X (d + 1) M pc ls (.int x0 :: r) T v P :=
  ev_callS (as := [.int x0]) pc hd (by rw [hM]; exact rfl) (by rw [hM]; exact rfl) (by rw [hM]; exact rfl) (by rw [hM]; exact rfl) pl_39 rfl hn (Nat.le_of_ble_eq_true rfl) rfl k
theorem cs_4_92 {X : pmX} {d : Nat} {M : pmM} {ls r : List Value} {T : pmT} {v : pmV} {P : Option Value → pmT → pmV → Prop} {pc : Nat} {x0 : Int32} (hM : M.1 = 4) (hd : decode M.2.2.1 pc = .ok (.invokestatic 92, 3)) (hn : pmNum r ≤ 8) (k : EvP X d MX4_isSign 0 [.int x0] [] T v (fun o T' v' => EvP X (d + 1) M (pc + 3) ls (pmPush o r) T' v' P)) : EvP X (d + 1) M pc ls (.int x0 :: r) T v P :=
  ev_callS (as := [.int x0]) pc hd (by rw [hM]; exact rfl) (by rw [hM]; exact rfl) (by rw [hM]; exact rfl) (by rw [hM]; exact rfl) pl_40 rfl hn (Nat.le_of_ble_eq_true rfl) rfl k
theorem cs_4_95 {X : pmX} {d : Nat} {M : pmM} {ls r : List Value} {T : pmT} {v : pmV} {P : Option Value → pmT → pmV → Prop} {pc : Nat} {x0 : Int32} (hM : M.1 = 4) (hd : decode M.2.2.1 pc = .ok (.invokestatic 95, 3)) (hn : pmNum r ≤ 8) (k : EvP X d MX4_wordOf 0 [.int x0] [] T v (fun o T' v' => EvP X (d + 1) M (pc + 3) ls (pmPush o r) T' v' P)) : EvP X (d + 1) M pc ls (.int x0 :: r) T v P :=
  ev_callS (as := [.int x0]) pc hd (by rw [hM]; exact rfl) (by rw [hM]; exact rfl) (by rw [hM]; exact rfl) (by rw [hM]; exact rfl) pl_36 rfl hn (Nat.le_of_ble_eq_true rfl) rfl k
theorem ac_5_25 : pmAt pmAcL (5, 25) = some 906 := rfl
theorem ac0_5_25 : pmAt pmMxL (5, 25) = none := rfl
theorem ac1_5_25 : pmAt pmMnL (5, 25) = none := rfl
theorem cs_5_40 {X : pmX} {d : Nat} {M : pmM} {ls r : List Value} {T : pmT} {v : pmV} {P : Option Value → pmT → pmV → Prop} {pc : Nat} {x0 : Int32} {x1 : Int32} {x2 : Int32} (hM : M.1 = 5) (hd : decode M.2.2.1 pc = .ok (.invokestatic 40, 3)) (hn : pmNum r ≤ 8) (k : EvP X d MX11_isIn 0 [.int x0, .int x1, .int x2] [] T v (fun o T' v' => EvP X (d + 1) M (pc + 3) ls (pmPush o r) T' v' P)) : EvP X (d + 1) M pc ls (.int x2 :: .int x1 :: .int x0 :: r) T v P :=
  ev_callS (as := [.int x0, .int x1, .int x2]) pc hd (by rw [hM]; exact rfl) (by rw [hM]; exact rfl) (by rw [hM]; exact rfl) (by rw [hM]; exact rfl) pl_100 rfl hn (Nat.le_of_ble_eq_true rfl) rfl k
theorem cs_5_44 {X : pmX} {d : Nat} {M : pmM} {ls r : List Value} {T : pmT} {v : pmV} {P : Option Value → pmT → pmV → Prop} {pc : Nat} {x0 : Int32} {x1 : Int32} (hM : M.1 = 5) (hd : decode M.2.2.1 pc = .ok (.invokestatic 44, 3)) (hn : pmNum r ≤ 8) (k : EvP X d MX11_placeOf 0 [.int x0, .int x1] [] T v (fun o T' v' => EvP X (d + 1) M (pc + 3) ls (pmPush o r) T' v' P)) : EvP X (d + 1) M pc ls (.int x1 :: .int x0 :: r) T v P :=
  ev_callS (as := [.int x0, .int x1]) pc hd (by rw [hM]; exact rfl) (by rw [hM]; exact rfl) (by rw [hM]; exact rfl) (by rw [hM]; exact rfl) pl_101 rfl hn (Nat.le_of_ble_eq_true rfl) rfl k
theorem cs_6_22 {X : pmX} {d : Nat} {M : pmM} {ls r : List Value} {T : pmT} {v : pmV} {P : Option Value → pmT → pmV → Prop} {pc : Nat} {x0 : Nat} {x1 : Int32} (hM : M.1 = 6) (hd : decode M.2.2.1 pc = .ok (.invokestatic 22, 3)) (hn : pmNum r ≤ 8) (k : EvP X d MJ7_fill_53178 0 [.ref x0, .int x1, pmJ, pmJ] [] T v (fun o T' v' => EvP X (d + 1) M (pc + 3) ls (pmPush o r) T' v' P)) : EvP X (d + 1) M pc ls (.int x1 :: .ref x0 :: r) T v P :=
  ev_callS (as := [.ref x0, .int x1]) pc hd (by rw [hM]; exact rfl) (by rw [hM]; exact rfl) (by rw [hM]; exact rfl) (by rw [hM]; exact rfl) pl_193 rfl hn (Nat.le_of_ble_eq_true rfl) rfl k
theorem mx_8_11 : pmAt pmMxL (8, 11) = some 726 := rfl
theorem cs_9_21 {X : pmX} {d : Nat} {M : pmM} {ls r : List Value} {T : pmT} {v : pmV} {P : Option Value → pmT → pmV → Prop} {pc : Nat} {x0 : Int32} {x1 : Int32} (hM : M.1 = 9) (hd : decode M.2.2.1 pc = .ok (.invokestatic 21, 3)) (hn : pmNum r ≤ 8) (k : EvP X d MX9_ofOne 0 [.int x0, .int x1] [] T v (fun o T' v' => EvP X (d + 1) M (pc + 3) ls (pmPush o r) T' v' P)) : EvP X (d + 1) M pc ls (.int x1 :: .int x0 :: r) T v P :=
  ev_callS (as := [.int x0, .int x1]) pc hd (by rw [hM]; exact rfl) (by rw [hM]; exact rfl) (by rw [hM]; exact rfl) (by rw [hM]; exact rfl) pl_71 rfl hn (Nat.le_of_ble_eq_true rfl) rfl k
theorem cs_9_25 {X : pmX} {d : Nat} {M : pmM} {ls r : List Value} {T : pmT} {v : pmV} {P : Option Value → pmT → pmV → Prop} {pc : Nat} {x0 : Int32} {x1 : Int32} {x2 : Int32} (hM : M.1 = 9) (hd : decode M.2.2.1 pc = .ok (.invokestatic 25, 3)) (hn : pmNum r ≤ 8) (k : EvP X d MX9_ofTwo 0 [.int x0, .int x1, .int x2] [] T v (fun o T' v' => EvP X (d + 1) M (pc + 3) ls (pmPush o r) T' v' P)) : EvP X (d + 1) M pc ls (.int x2 :: .int x1 :: .int x0 :: r) T v P :=
  ev_callS (as := [.int x0, .int x1, .int x2]) pc hd (by rw [hM]; exact rfl) (by rw [hM]; exact rfl) (by rw [hM]; exact rfl) (by rw [hM]; exact rfl) pl_72 rfl hn (Nat.le_of_ble_eq_true rfl) rfl k
theorem cs_11_74 {X : pmX} {d : Nat} {M : pmM} {ls r : List Value} {T : pmT} {v : pmV} {P : Option Value → pmT → pmV → Prop} {pc : Nat} {x0 : Int32} {x1 : Int32} {x2 : Int32} (hM : M.1 = 11) (hd : decode M.2.2.1 pc = .ok (.invokestatic 74, 3)) (hn : pmNum r ≤ 8) (k : EvP X d MX11_isIn 0 [.int x0, .int x1, .int x2] [] T v (fun o T' v' => EvP X (d + 1) M (pc + 3) ls (pmPush o r) T' v' P)) : EvP X (d + 1) M pc ls (.int x2 :: .int x1 :: .int x0 :: r) T v P :=
  ev_callS (as := [.int x0, .int x1, .int x2]) pc hd (by rw [hM]; exact rfl) (by rw [hM]; exact rfl) (by rw [hM]; exact rfl) (by rw [hM]; exact rfl) pl_100 rfl hn (Nat.le_of_ble_eq_true rfl) rfl k
theorem cs_11_81 {X : pmX} {d : Nat} {M : pmM} {ls r : List Value} {T : pmT} {v : pmV} {P : Option Value → pmT → pmV → Prop} {pc : Nat} {x0 : Int32} {x1 : Int32} {x2 : Int32} (hM : M.1 = 11) (hd : decode M.2.2.1 pc = .ok (.invokestatic 81, 3)) (hn : pmNum r ≤ 8) (k : EvP X d MX11_newLane 0 [.int x0, .int x1, .int x2] [] T v (fun o T' v' => EvP X (d + 1) M (pc + 3) ls (pmPush o r) T' v' P)) : EvP X (d + 1) M pc ls (.int x2 :: .int x1 :: .int x0 :: r) T v P :=
  ev_callS (as := [.int x0, .int x1, .int x2]) pc hd (by rw [hM]; exact rfl) (by rw [hM]; exact rfl) (by rw [hM]; exact rfl) (by rw [hM]; exact rfl) pl_102 rfl hn (Nat.le_of_ble_eq_true rfl) rfl k
theorem cs_11_96 {X : pmX} {d : Nat} {M : pmM} {ls r : List Value} {T : pmT} {v : pmV} {P : Option Value → pmT → pmV → Prop} {pc : Nat} {x0 : Int32} {x1 : Int32} (hM : M.1 = 11) (hd : decode M.2.2.1 pc = .ok (.invokestatic 96, 3)) (hn : pmNum r ≤ 8) (k : EvP X d MX11_placeOf 0 [.int x0, .int x1] [] T v (fun o T' v' => EvP X (d + 1) M (pc + 3) ls (pmPush o r) T' v' P)) : EvP X (d + 1) M pc ls (.int x1 :: .int x0 :: r) T v P :=
  ev_callS (as := [.int x0, .int x1]) pc hd (by rw [hM]; exact rfl) (by rw [hM]; exact rfl) (by rw [hM]; exact rfl) (by rw [hM]; exact rfl) pl_101 rfl hn (Nat.le_of_ble_eq_true rfl) rfl k
theorem cs_11_197 {X : pmX} {d : Nat} {M : pmM} {ls r : List Value} {T : pmT} {v : pmV} {P : Option Value → pmT → pmV → Prop} {pc : Nat} {x0 : Nat} {x1 : Int64} (hM : M.1 = 11) (hd : decode M.2.2.1 pc = .ok (.invokestatic 197, 3)) (hn : pmNum r ≤ 8) (k : EvP X d MJ7_fill_d0a16 0 [.ref x0, .long x1, pmJ, pmJ, pmJ] [] T v (fun o T' v' => EvP X (d + 1) M (pc + 3) ls (pmPush o r) T' v' P)) : EvP X (d + 1) M pc ls (.long x1 :: .ref x0 :: r) T v P :=
  ev_callS (as := [.ref x0, .long x1]) pc hd (by rw [hM]; exact rfl) (by rw [hM]; exact rfl) (by rw [hM]; exact rfl) (by rw [hM]; exact rfl) pl_192 rfl hn (Nat.le_of_ble_eq_true rfl) rfl k
theorem ac_11_256 : pmAt pmAcL (11, 256) = some 951 := rfl
theorem ac0_11_256 : pmAt pmMxL (11, 256) = none := rfl
theorem ac1_11_256 : pmAt pmMnL (11, 256) = none := rfl
theorem cs_11_266 {X : pmX} {d : Nat} {M : pmM} {ls r : List Value} {T : pmT} {v : pmV} {P : Option Value → pmT → pmV → Prop} {pc : Nat} {x0 : Nat} {x1 : Int32} (hM : M.1 = 11) (hd : decode M.2.2.1 pc = .ok (.invokestatic 266, 3)) (hn : pmNum r ≤ 8) (k : EvP X d MX11_isOfKind 0 [.ref x0, .int x1] [] T v (fun o T' v' => EvP X (d + 1) M (pc + 3) ls (pmPush o r) T' v' P)) : EvP X (d + 1) M pc ls (.int x1 :: .ref x0 :: r) T v P :=
  ev_callS (as := [.ref x0, .int x1]) pc hd (by rw [hM]; exact rfl) (by rw [hM]; exact rfl) (by rw [hM]; exact rfl) (by rw [hM]; exact rfl) pl_103 rfl hn (Nat.le_of_ble_eq_true rfl) rfl k
theorem cs_20_495 {X : pmX} {d : Nat} {M : pmM} {ls r : List Value} {T : pmT} {v : pmV} {P : Option Value → pmT → pmV → Prop} {pc : Nat} {x0 : Nat} {x1 : Int32} (hM : M.1 = 20) (hd : decode M.2.2.1 pc = .ok (.invokestatic 495, 3)) (hn : pmNum r ≤ 8) (k : EvP X d MJ1_charAt_3b067 0 [.ref x0, .int x1] [] T v (fun o T' v' => EvP X (d + 1) M (pc + 3) ls (pmPush o r) T' v' P)) : EvP X (d + 1) M pc ls (.int x1 :: .ref x0 :: r) T v P :=
  ev_callS (as := [.ref x0, .int x1]) pc hd (by rw [hM]; exact rfl) (by rw [hM]; exact rfl) (by rw [hM]; exact rfl) (by rw [hM]; exact rfl) pl_188 rfl hn (Nat.le_of_ble_eq_true rfl) rfl k
theorem cs_20_637 {X : pmX} {d : Nat} {M : pmM} {ls r : List Value} {T : pmT} {v : pmV} {P : Option Value → pmT → pmV → Prop} {pc : Nat} {x0 : Nat} {x1 : Int32} {x2 : Int32} {x3 : Int32} (hM : M.1 = 20) (hd : decode M.2.2.1 pc = .ok (.invokestatic 637, 3)) (hn : pmNum r ≤ 8) (k : EvP X d MJ1_indexOf_4cfef 0 [.ref x0, .int x1, .int x2, .int x3] [] T v (fun o T' v' => EvP X (d + 1) M (pc + 3) ls (pmPush o r) T' v' P)) : EvP X (d + 1) M pc ls (.int x3 :: .int x2 :: .int x1 :: .ref x0 :: r) T v P :=
  ev_callS (as := [.ref x0, .int x1, .int x2, .int x3]) pc hd (by rw [hM]; exact rfl) (by rw [hM]; exact rfl) (by rw [hM]; exact rfl) (by rw [hM]; exact rfl) pl_190 rfl hn (Nat.le_of_ble_eq_true rfl) rfl k
theorem cs_20_1059 {X : pmX} {d : Nat} {M : pmM} {ls r : List Value} {T : pmT} {v : pmV} {P : Option Value → pmT → pmV → Prop} {pc : Nat} {x0 : Int32} {x1 : Int32} {x2 : Nat} (hM : M.1 = 20) (hd : decode M.2.2.1 pc = .ok (.invokestatic 1059, 3)) (hn : pmNum r ≤ 8) (k : EvP X d MJ3_checkIndex_8e157 0 [.int x0, .int x1, .ref x2] [] T v (fun o T' v' => EvP X (d + 1) M (pc + 3) ls (pmPush o r) T' v' P)) : EvP X (d + 1) M pc ls (.ref x2 :: .int x1 :: .int x0 :: r) T v P :=
  ev_callS (as := [.int x0, .int x1, .ref x2]) pc hd (by rw [hM]; exact rfl) (by rw [hM]; exact rfl) (by rw [hM]; exact rfl) (by rw [hM]; exact rfl) pl_194 rfl hn (Nat.le_of_ble_eq_true rfl) rfl k
theorem cs_21_9 {X : pmX} {d : Nat} {M : pmM} {ls r : List Value} {T : pmT} {v : pmV} {P : Option Value → pmT → pmV → Prop} {pc : Nat} {x0 : Int32} {x1 : Int32} (hM : M.1 = 21) (hd : decode M.2.2.1 pc = .ok (.invokestatic 9, 3)) (hn : pmNum r ≤ 8) (k : EvP X d MJ0_checkIndex_df160 0 [.int x0, .int x1] [] T v (fun o T' v' => EvP X (d + 1) M (pc + 3) ls (pmPush o r) T' v' P)) : EvP X (d + 1) M pc ls (.int x1 :: .int x0 :: r) T v P :=
  ev_callS (as := [.int x0, .int x1]) pc hd (by rw [hM]; exact rfl) (by rw [hM]; exact rfl) (by rw [hM]; exact rfl) (by rw [hM]; exact rfl) pl_187 rfl hn (Nat.le_of_ble_eq_true rfl) rfl k
theorem mn_21_38 : pmAt pmMnL (21, 38) = some 432 := rfl
theorem mn0_21_38 : pmAt pmMxL (21, 38) = none := rfl
theorem cs_21_88 {X : pmX} {d : Nat} {M : pmM} {ls r : List Value} {T : pmT} {v : pmV} {P : Option Value → pmT → pmV → Prop} {pc : Nat} {x0 : Int32} (hM : M.1 = 21) (hd : decode M.2.2.1 pc = .ok (.invokestatic 88, 3)) (hn : pmNum r ≤ 8) (k : EvP X d MJ1_canEncode_9a6ad 0 [.int x0] [] T v (fun o T' v' => EvP X (d + 1) M (pc + 3) ls (pmPush o r) T' v' P)) : EvP X (d + 1) M pc ls (.int x0 :: r) T v P :=
  ev_callS (as := [.int x0]) pc hd (by rw [hM]; exact rfl) (by rw [hM]; exact rfl) (by rw [hM]; exact rfl) (by rw [hM]; exact rfl) pl_189 rfl hn (Nat.le_of_ble_eq_true rfl) rfl k
theorem mx_21_92 : pmAt pmMxL (21, 92) = some 429 := rfl
theorem cs_21_95 {X : pmX} {d : Nat} {M : pmM} {ls r : List Value} {T : pmT} {v : pmV} {P : Option Value → pmT → pmV → Prop} {pc : Nat} {x0 : Nat} {x1 : Int32} {x2 : Int32} {x3 : Int32} (hM : M.1 = 21) (hd : decode M.2.2.1 pc = .ok (.invokestatic 95, 3)) (hn : pmNum r ≤ 8) (k : EvP X d MJ1_indexOfChar_4cfef 0 [.ref x0, .int x1, .int x2, .int x3, pmJ, pmJ] [] T v (fun o T' v' => EvP X (d + 1) M (pc + 3) ls (pmPush o r) T' v' P)) : EvP X (d + 1) M pc ls (.int x3 :: .int x2 :: .int x1 :: .ref x0 :: r) T v P :=
  ev_callS (as := [.ref x0, .int x1, .int x2, .int x3]) pc hd (by rw [hM]; exact rfl) (by rw [hM]; exact rfl) (by rw [hM]; exact rfl) (by rw [hM]; exact rfl) pl_191 rfl hn (Nat.le_of_ble_eq_true rfl) rfl k
theorem cv_1_84_6 {X : pmX} {d : Nat} {M : pmM} {ls r : List Value} {T : pmT} {v : pmV} {P : Option Value → pmT → pmV → Prop} {pc : Nat} {a : Nat} {x0 : Int32} (hM : M.1 = 1) (hd : decode M.2.2.1 pc = .ok (.invokevirtual 84, 3)) (hkd : pmKind T a = 6) (hn : pmNum r ≤ 8) (k : EvP X d MX6_has 0 [.ref a, .int x0] [] T v (fun o T' v' => EvP X (d + 1) M (pc + 3) ls (pmPush o r) T' v' P)) : EvP X (d + 1) M pc ls (.int x0 :: .ref a :: r) T v P :=
  ev_callV (as := [.int x0]) pc hd (by rw [hM]; exact rfl) hkd rfl pl_59 rfl hn (Nat.le_of_ble_eq_true rfl) rfl k
theorem cv_1_90_6 {X : pmX} {d : Nat} {M : pmM} {ls r : List Value} {T : pmT} {v : pmV} {P : Option Value → pmT → pmV → Prop} {pc : Nat} {a : Nat} {x0 : Int32} (hM : M.1 = 1) (hd : decode M.2.2.1 pc = .ok (.invokevirtual 90, 3)) (hkd : pmKind T a = 6) (hn : pmNum r ≤ 8) (k : EvP X d MX6_at 0 [.ref a, .int x0] [] T v (fun o T' v' => EvP X (d + 1) M (pc + 3) ls (pmPush o r) T' v' P)) : EvP X (d + 1) M pc ls (.int x0 :: .ref a :: r) T v P :=
  ev_callV (as := [.int x0]) pc hd (by rw [hM]; exact rfl) hkd rfl pl_61 rfl hn (Nat.le_of_ble_eq_true rfl) rfl k
theorem cv_1_94_1 {X : pmX} {d : Nat} {M : pmM} {ls r : List Value} {T : pmT} {v : pmV} {P : Option Value → pmT → pmV → Prop} {pc : Nat} {a : Nat}  (hM : M.1 = 1) (hd : decode M.2.2.1 pc = .ok (.invokevirtual 94, 3)) (hkd : pmKind T a = 1) (hn : pmNum r ≤ 8) (k : EvP X d MX1_begin 0 [.ref a, pmJ] [] T v (fun o T' v' => EvP X (d + 1) M (pc + 3) ls (pmPush o r) T' v' P)) : EvP X (d + 1) M pc ls (.ref a :: r) T v P :=
  ev_callV (as := []) pc hd (by rw [hM]; exact rfl) hkd rfl pl_8 rfl hn (Nat.le_of_ble_eq_true rfl) rfl k
theorem cv_1_101_1 {X : pmX} {d : Nat} {M : pmM} {ls r : List Value} {T : pmT} {v : pmV} {P : Option Value → pmT → pmV → Prop} {pc : Nat} {a : Nat} {x0 : Int32} {x1 : Int32} (hM : M.1 = 1) (hd : decode M.2.2.1 pc = .ok (.invokevirtual 101, 3)) (hkd : pmKind T a = 1) (hn : pmNum r ≤ 8) (k : EvP X d MX1_arrive 0 [.ref a, .int x0, .int x1, pmJ, pmJ, pmJ] [] T v (fun o T' v' => EvP X (d + 1) M (pc + 3) ls (pmPush o r) T' v' P)) : EvP X (d + 1) M pc ls (.int x1 :: .int x0 :: .ref a :: r) T v P :=
  ev_callV (as := [.int x0, .int x1]) pc hd (by rw [hM]; exact rfl) hkd rfl pl_9 rfl hn (Nat.le_of_ble_eq_true rfl) rfl k
theorem cv_1_105_1 {X : pmX} {d : Nat} {M : pmM} {ls r : List Value} {T : pmT} {v : pmV} {P : Option Value → pmT → pmV → Prop} {pc : Nat} {a : Nat} {x0 : Int32} (hM : M.1 = 1) (hd : decode M.2.2.1 pc = .ok (.invokevirtual 105, 3)) (hkd : pmKind T a = 1) (hn : pmNum r ≤ 8) (k : EvP X d MX1_laneByRule 0 [.ref a, .int x0, pmJ, pmJ, pmJ, pmJ] [] T v (fun o T' v' => EvP X (d + 1) M (pc + 3) ls (pmPush o r) T' v' P)) : EvP X (d + 1) M pc ls (.int x0 :: .ref a :: r) T v P :=
  ev_callV (as := [.int x0]) pc hd (by rw [hM]; exact rfl) hkd rfl pl_11 rfl hn (Nat.le_of_ble_eq_true rfl) rfl k
theorem cv_1_108_1 {X : pmX} {d : Nat} {M : pmM} {ls r : List Value} {T : pmT} {v : pmV} {P : Option Value → pmT → pmV → Prop} {pc : Nat} {a : Nat} {x0 : Int32} {x1 : Int32} (hM : M.1 = 1) (hd : decode M.2.2.1 pc = .ok (.invokevirtual 108, 3)) (hkd : pmKind T a = 1) (hn : pmNum r ≤ 8) (k : EvP X d MX1_turn 0 [.ref a, .int x0, .int x1] [] T v (fun o T' v' => EvP X (d + 1) M (pc + 3) ls (pmPush o r) T' v' P)) : EvP X (d + 1) M pc ls (.int x1 :: .int x0 :: .ref a :: r) T v P :=
  ev_callV (as := [.int x0, .int x1]) pc hd (by rw [hM]; exact rfl) hkd rfl pl_10 rfl hn (Nat.le_of_ble_eq_true rfl) rfl k
theorem cv_1_111_1 {X : pmX} {d : Nat} {M : pmM} {ls r : List Value} {T : pmT} {v : pmV} {P : Option Value → pmT → pmV → Prop} {pc : Nat} {a : Nat} {x0 : Int32} (hM : M.1 = 1) (hd : decode M.2.2.1 pc = .ok (.invokevirtual 111, 3)) (hkd : pmKind T a = 1) (hn : pmNum r ≤ 8) (k : EvP X d MX1_carryAll 0 [.ref a, .int x0, pmJ, pmJ, pmJ, pmJ] [] T v (fun o T' v' => EvP X (d + 1) M (pc + 3) ls (pmPush o r) T' v' P)) : EvP X (d + 1) M pc ls (.int x0 :: .ref a :: r) T v P :=
  ev_callV (as := [.int x0]) pc hd (by rw [hM]; exact rfl) hkd rfl pl_13 rfl hn (Nat.le_of_ble_eq_true rfl) rfl k
theorem cv_1_115_1 {X : pmX} {d : Nat} {M : pmM} {ls r : List Value} {T : pmT} {v : pmV} {P : Option Value → pmT → pmV → Prop} {pc : Nat} {a : Nat} {x0 : Int32} {x1 : Int32} {x2 : Int32} (hM : M.1 = 1) (hd : decode M.2.2.1 pc = .ok (.invokevirtual 115, 3)) (hkd : pmKind T a = 1) (hn : pmNum r ≤ 8) (k : EvP X d MX1_take 0 [.ref a, .int x0, .int x1, .int x2, pmJ, pmJ] [] T v (fun o T' v' => EvP X (d + 1) M (pc + 3) ls (pmPush o r) T' v' P)) : EvP X (d + 1) M pc ls (.int x2 :: .int x1 :: .int x0 :: .ref a :: r) T v P :=
  ev_callV (as := [.int x0, .int x1, .int x2]) pc hd (by rw [hM]; exact rfl) hkd rfl pl_14 rfl hn (Nat.le_of_ble_eq_true rfl) rfl k
theorem cv_1_119_1 {X : pmX} {d : Nat} {M : pmM} {ls r : List Value} {T : pmT} {v : pmV} {P : Option Value → pmT → pmV → Prop} {pc : Nat} {a : Nat} {x0 : Int32} {x1 : Int32} (hM : M.1 = 1) (hd : decode M.2.2.1 pc = .ok (.invokevirtual 119, 3)) (hkd : pmKind T a = 1) (hn : pmNum r ≤ 8) (k : EvP X d MX1_painOf 0 [.ref a, .int x0, .int x1] [] T v (fun o T' v' => EvP X (d + 1) M (pc + 3) ls (pmPush o r) T' v' P)) : EvP X (d + 1) M pc ls (.int x1 :: .int x0 :: .ref a :: r) T v P :=
  ev_callV (as := [.int x0, .int x1]) pc hd (by rw [hM]; exact rfl) hkd rfl pl_15 rfl hn (Nat.le_of_ble_eq_true rfl) rfl k
theorem cv_1_122_1 {X : pmX} {d : Nat} {M : pmM} {ls r : List Value} {T : pmT} {v : pmV} {P : Option Value → pmT → pmV → Prop} {pc : Nat} {a : Nat} {x0 : Int32} {x1 : Int32} (hM : M.1 = 1) (hd : decode M.2.2.1 pc = .ok (.invokevirtual 122, 3)) (hkd : pmKind T a = 1) (hn : pmNum r ≤ 8) (k : EvP X d MX1_canTurn 0 [.ref a, .int x0, .int x1] [] T v (fun o T' v' => EvP X (d + 1) M (pc + 3) ls (pmPush o r) T' v' P)) : EvP X (d + 1) M pc ls (.int x1 :: .int x0 :: .ref a :: r) T v P :=
  ev_callV (as := [.int x0, .int x1]) pc hd (by rw [hM]; exact rfl) hkd rfl pl_12 rfl hn (Nat.le_of_ble_eq_true rfl) rfl k
theorem cv_1_138_1 {X : pmX} {d : Nat} {M : pmM} {ls r : List Value} {T : pmT} {v : pmV} {P : Option Value → pmT → pmV → Prop} {pc : Nat} {a : Nat} {x0 : Int32} {x1 : Int32} {x2 : Int32} (hM : M.1 = 1) (hd : decode M.2.2.1 pc = .ok (.invokevirtual 138, 3)) (hkd : pmKind T a = 1) (hn : pmNum r ≤ 8) (k : EvP X d MX1_value 0 [.ref a, .int x0, .int x1, .int x2] [] T v (fun o T' v' => EvP X (d + 1) M (pc + 3) ls (pmPush o r) T' v' P)) : EvP X (d + 1) M pc ls (.int x2 :: .int x1 :: .int x0 :: .ref a :: r) T v P :=
  ev_callV (as := [.int x0, .int x1, .int x2]) pc hd (by rw [hM]; exact rfl) hkd rfl pl_16 rfl hn (Nat.le_of_ble_eq_true rfl) rfl k
theorem cv_1_155_0 {X : pmX} {d : Nat} {M : pmM} {ls r : List Value} {T : pmT} {v : pmV} {P : Option Value → pmT → pmV → Prop} {pc : Nat} {a : Nat} {x0 : Int32} (hM : M.1 = 1) (hd : decode M.2.2.1 pc = .ok (.invokevirtual 155, 3)) (hkd : pmKind T a = 0) (hn : pmNum r ≤ 8) (k : EvP X d MX3_rests 0 [.ref a, .int x0] [] T v (fun o T' v' => EvP X (d + 1) M (pc + 3) ls (pmPush o r) T' v' P)) : EvP X (d + 1) M pc ls (.int x0 :: .ref a :: r) T v P :=
  ev_callV (as := [.int x0]) pc hd (by rw [hM]; exact rfl) hkd rfl pl_24 rfl hn (Nat.le_of_ble_eq_true rfl) rfl k
theorem cv_1_155_2 {X : pmX} {d : Nat} {M : pmM} {ls r : List Value} {T : pmT} {v : pmV} {P : Option Value → pmT → pmV → Prop} {pc : Nat} {a : Nat} {x0 : Int32} (hM : M.1 = 1) (hd : decode M.2.2.1 pc = .ok (.invokevirtual 155, 3)) (hkd : pmKind T a = 2) (hn : pmNum r ≤ 8) (k : EvP X d MX3_rests 0 [.ref a, .int x0] [] T v (fun o T' v' => EvP X (d + 1) M (pc + 3) ls (pmPush o r) T' v' P)) : EvP X (d + 1) M pc ls (.int x0 :: .ref a :: r) T v P :=
  ev_callV (as := [.int x0]) pc hd (by rw [hM]; exact rfl) hkd rfl pl_24 rfl hn (Nat.le_of_ble_eq_true rfl) rfl k
theorem cv_1_155_3 {X : pmX} {d : Nat} {M : pmM} {ls r : List Value} {T : pmT} {v : pmV} {P : Option Value → pmT → pmV → Prop} {pc : Nat} {a : Nat} {x0 : Int32} (hM : M.1 = 1) (hd : decode M.2.2.1 pc = .ok (.invokevirtual 155, 3)) (hkd : pmKind T a = 3) (hn : pmNum r ≤ 8) (k : EvP X d MX3_rests 0 [.ref a, .int x0] [] T v (fun o T' v' => EvP X (d + 1) M (pc + 3) ls (pmPush o r) T' v' P)) : EvP X (d + 1) M pc ls (.int x0 :: .ref a :: r) T v P :=
  ev_callV (as := [.int x0]) pc hd (by rw [hM]; exact rfl) hkd rfl pl_24 rfl hn (Nat.le_of_ble_eq_true rfl) rfl k
theorem cv_1_155_7 {X : pmX} {d : Nat} {M : pmM} {ls r : List Value} {T : pmT} {v : pmV} {P : Option Value → pmT → pmV → Prop} {pc : Nat} {a : Nat} {x0 : Int32} (hM : M.1 = 1) (hd : decode M.2.2.1 pc = .ok (.invokevirtual 155, 3)) (hkd : pmKind T a = 7) (hn : pmNum r ≤ 8) (k : EvP X d MX10_rests 0 [.ref a, .int x0] [] T v (fun o T' v' => EvP X (d + 1) M (pc + 3) ls (pmPush o r) T' v' P)) : EvP X (d + 1) M pc ls (.int x0 :: .ref a :: r) T v P :=
  ev_callV (as := [.int x0]) pc hd (by rw [hM]; exact rfl) hkd rfl pl_75 rfl hn (Nat.le_of_ble_eq_true rfl) rfl k
theorem cv_1_155_8 {X : pmX} {d : Nat} {M : pmM} {ls r : List Value} {T : pmT} {v : pmV} {P : Option Value → pmT → pmV → Prop} {pc : Nat} {a : Nat} {x0 : Int32} (hM : M.1 = 1) (hd : decode M.2.2.1 pc = .ok (.invokevirtual 155, 3)) (hkd : pmKind T a = 8) (hn : pmNum r ≤ 8) (k : EvP X d MX8_rests 0 [.ref a, .int x0] [] T v (fun o T' v' => EvP X (d + 1) M (pc + 3) ls (pmPush o r) T' v' P)) : EvP X (d + 1) M pc ls (.int x0 :: .ref a :: r) T v P :=
  ev_callV (as := [.int x0]) pc hd (by rw [hM]; exact rfl) hkd rfl pl_68 rfl hn (Nat.le_of_ble_eq_true rfl) rfl k
theorem cv_1_155_10 {X : pmX} {d : Nat} {M : pmM} {ls r : List Value} {T : pmT} {v : pmV} {P : Option Value → pmT → pmV → Prop} {pc : Nat} {a : Nat} {x0 : Int32} (hM : M.1 = 1) (hd : decode M.2.2.1 pc = .ok (.invokevirtual 155, 3)) (hkd : pmKind T a = 10) (hn : pmNum r ≤ 8) (k : EvP X d MX10_rests 0 [.ref a, .int x0] [] T v (fun o T' v' => EvP X (d + 1) M (pc + 3) ls (pmPush o r) T' v' P)) : EvP X (d + 1) M pc ls (.int x0 :: .ref a :: r) T v P :=
  ev_callV (as := [.int x0]) pc hd (by rw [hM]; exact rfl) hkd rfl pl_75 rfl hn (Nat.le_of_ble_eq_true rfl) rfl k
theorem cv_1_161_0 {X : pmX} {d : Nat} {M : pmM} {ls r : List Value} {T : pmT} {v : pmV} {P : Option Value → pmT → pmV → Prop} {pc : Nat} {a : Nat} {x0 : Int32} (hM : M.1 = 1) (hd : decode M.2.2.1 pc = .ok (.invokevirtual 161, 3)) (hkd : pmKind T a = 0) (hn : pmNum r ≤ 8) (k : EvP X d MX3_mayTurn 0 [.ref a, .int x0] [] T v (fun o T' v' => EvP X (d + 1) M (pc + 3) ls (pmPush o r) T' v' P)) : EvP X (d + 1) M pc ls (.int x0 :: .ref a :: r) T v P :=
  ev_callV (as := [.int x0]) pc hd (by rw [hM]; exact rfl) hkd rfl pl_23 rfl hn (Nat.le_of_ble_eq_true rfl) rfl k
theorem cv_1_161_2 {X : pmX} {d : Nat} {M : pmM} {ls r : List Value} {T : pmT} {v : pmV} {P : Option Value → pmT → pmV → Prop} {pc : Nat} {a : Nat} {x0 : Int32} (hM : M.1 = 1) (hd : decode M.2.2.1 pc = .ok (.invokevirtual 161, 3)) (hkd : pmKind T a = 2) (hn : pmNum r ≤ 8) (k : EvP X d MX2_mayTurn 0 [.ref a, .int x0] [] T v (fun o T' v' => EvP X (d + 1) M (pc + 3) ls (pmPush o r) T' v' P)) : EvP X (d + 1) M pc ls (.int x0 :: .ref a :: r) T v P :=
  ev_callV (as := [.int x0]) pc hd (by rw [hM]; exact rfl) hkd rfl pl_19 rfl hn (Nat.le_of_ble_eq_true rfl) rfl k
theorem cv_1_161_3 {X : pmX} {d : Nat} {M : pmM} {ls r : List Value} {T : pmT} {v : pmV} {P : Option Value → pmT → pmV → Prop} {pc : Nat} {a : Nat} {x0 : Int32} (hM : M.1 = 1) (hd : decode M.2.2.1 pc = .ok (.invokevirtual 161, 3)) (hkd : pmKind T a = 3) (hn : pmNum r ≤ 8) (k : EvP X d MX3_mayTurn 0 [.ref a, .int x0] [] T v (fun o T' v' => EvP X (d + 1) M (pc + 3) ls (pmPush o r) T' v' P)) : EvP X (d + 1) M pc ls (.int x0 :: .ref a :: r) T v P :=
  ev_callV (as := [.int x0]) pc hd (by rw [hM]; exact rfl) hkd rfl pl_23 rfl hn (Nat.le_of_ble_eq_true rfl) rfl k
theorem cv_1_161_7 {X : pmX} {d : Nat} {M : pmM} {ls r : List Value} {T : pmT} {v : pmV} {P : Option Value → pmT → pmV → Prop} {pc : Nat} {a : Nat} {x0 : Int32} (hM : M.1 = 1) (hd : decode M.2.2.1 pc = .ok (.invokevirtual 161, 3)) (hkd : pmKind T a = 7) (hn : pmNum r ≤ 8) (k : EvP X d MX3_mayTurn 0 [.ref a, .int x0] [] T v (fun o T' v' => EvP X (d + 1) M (pc + 3) ls (pmPush o r) T' v' P)) : EvP X (d + 1) M pc ls (.int x0 :: .ref a :: r) T v P :=
  ev_callV (as := [.int x0]) pc hd (by rw [hM]; exact rfl) hkd rfl pl_23 rfl hn (Nat.le_of_ble_eq_true rfl) rfl k
theorem cv_1_161_8 {X : pmX} {d : Nat} {M : pmM} {ls r : List Value} {T : pmT} {v : pmV} {P : Option Value → pmT → pmV → Prop} {pc : Nat} {a : Nat} {x0 : Int32} (hM : M.1 = 1) (hd : decode M.2.2.1 pc = .ok (.invokevirtual 161, 3)) (hkd : pmKind T a = 8) (hn : pmNum r ≤ 8) (k : EvP X d MX8_mayTurn 0 [.ref a, .int x0] [] T v (fun o T' v' => EvP X (d + 1) M (pc + 3) ls (pmPush o r) T' v' P)) : EvP X (d + 1) M pc ls (.int x0 :: .ref a :: r) T v P :=
  ev_callV (as := [.int x0]) pc hd (by rw [hM]; exact rfl) hkd rfl pl_67 rfl hn (Nat.le_of_ble_eq_true rfl) rfl k
theorem cv_1_161_10 {X : pmX} {d : Nat} {M : pmM} {ls r : List Value} {T : pmT} {v : pmV} {P : Option Value → pmT → pmV → Prop} {pc : Nat} {a : Nat} {x0 : Int32} (hM : M.1 = 1) (hd : decode M.2.2.1 pc = .ok (.invokevirtual 161, 3)) (hkd : pmKind T a = 10) (hn : pmNum r ≤ 8) (k : EvP X d MX3_mayTurn 0 [.ref a, .int x0] [] T v (fun o T' v' => EvP X (d + 1) M (pc + 3) ls (pmPush o r) T' v' P)) : EvP X (d + 1) M pc ls (.int x0 :: .ref a :: r) T v P :=
  ev_callV (as := [.int x0]) pc hd (by rw [hM]; exact rfl) hkd rfl pl_23 rfl hn (Nat.le_of_ble_eq_true rfl) rfl k
theorem cv_1_164_5 {X : pmX} {d : Nat} {M : pmM} {ls r : List Value} {T : pmT} {v : pmV} {P : Option Value → pmT → pmV → Prop} {pc : Nat} {a : Nat} {x0 : Int32} {x1 : Int32} (hM : M.1 = 1) (hd : decode M.2.2.1 pc = .ok (.invokevirtual 164, 3)) (hkd : pmKind T a = 5) (hn : pmNum r ≤ 8) (k : EvP X d MX5_stops 0 [.ref a, .int x0, .int x1] [] T v (fun o T' v' => EvP X (d + 1) M (pc + 3) ls (pmPush o r) T' v' P)) : EvP X (d + 1) M pc ls (.int x1 :: .int x0 :: .ref a :: r) T v P :=
  ev_callV (as := [.int x0, .int x1]) pc hd (by rw [hM]; exact rfl) hkd rfl pl_54 rfl hn (Nat.le_of_ble_eq_true rfl) rfl k
theorem cv_1_167_0 {X : pmX} {d : Nat} {M : pmM} {ls r : List Value} {T : pmT} {v : pmV} {P : Option Value → pmT → pmV → Prop} {pc : Nat} {a : Nat} {x0 : Int32} (hM : M.1 = 1) (hd : decode M.2.2.1 pc = .ok (.invokevirtual 167, 3)) (hkd : pmKind T a = 0) (hn : pmNum r ≤ 8) (k : EvP X d MX3_carries 0 [.ref a, .int x0] [] T v (fun o T' v' => EvP X (d + 1) M (pc + 3) ls (pmPush o r) T' v' P)) : EvP X (d + 1) M pc ls (.int x0 :: .ref a :: r) T v P :=
  ev_callV (as := [.int x0]) pc hd (by rw [hM]; exact rfl) hkd rfl pl_21 rfl hn (Nat.le_of_ble_eq_true rfl) rfl k
theorem cv_1_167_2 {X : pmX} {d : Nat} {M : pmM} {ls r : List Value} {T : pmT} {v : pmV} {P : Option Value → pmT → pmV → Prop} {pc : Nat} {a : Nat} {x0 : Int32} (hM : M.1 = 1) (hd : decode M.2.2.1 pc = .ok (.invokevirtual 167, 3)) (hkd : pmKind T a = 2) (hn : pmNum r ≤ 8) (k : EvP X d MX3_carries 0 [.ref a, .int x0] [] T v (fun o T' v' => EvP X (d + 1) M (pc + 3) ls (pmPush o r) T' v' P)) : EvP X (d + 1) M pc ls (.int x0 :: .ref a :: r) T v P :=
  ev_callV (as := [.int x0]) pc hd (by rw [hM]; exact rfl) hkd rfl pl_21 rfl hn (Nat.le_of_ble_eq_true rfl) rfl k
theorem cv_1_167_3 {X : pmX} {d : Nat} {M : pmM} {ls r : List Value} {T : pmT} {v : pmV} {P : Option Value → pmT → pmV → Prop} {pc : Nat} {a : Nat} {x0 : Int32} (hM : M.1 = 1) (hd : decode M.2.2.1 pc = .ok (.invokevirtual 167, 3)) (hkd : pmKind T a = 3) (hn : pmNum r ≤ 8) (k : EvP X d MX3_carries 0 [.ref a, .int x0] [] T v (fun o T' v' => EvP X (d + 1) M (pc + 3) ls (pmPush o r) T' v' P)) : EvP X (d + 1) M pc ls (.int x0 :: .ref a :: r) T v P :=
  ev_callV (as := [.int x0]) pc hd (by rw [hM]; exact rfl) hkd rfl pl_21 rfl hn (Nat.le_of_ble_eq_true rfl) rfl k
theorem cv_1_167_7 {X : pmX} {d : Nat} {M : pmM} {ls r : List Value} {T : pmT} {v : pmV} {P : Option Value → pmT → pmV → Prop} {pc : Nat} {a : Nat} {x0 : Int32} (hM : M.1 = 1) (hd : decode M.2.2.1 pc = .ok (.invokevirtual 167, 3)) (hkd : pmKind T a = 7) (hn : pmNum r ≤ 8) (k : EvP X d MX7_carries 0 [.ref a, .int x0] [] T v (fun o T' v' => EvP X (d + 1) M (pc + 3) ls (pmPush o r) T' v' P)) : EvP X (d + 1) M pc ls (.int x0 :: .ref a :: r) T v P :=
  ev_callV (as := [.int x0]) pc hd (by rw [hM]; exact rfl) hkd rfl pl_64 rfl hn (Nat.le_of_ble_eq_true rfl) rfl k
theorem cv_1_167_8 {X : pmX} {d : Nat} {M : pmM} {ls r : List Value} {T : pmT} {v : pmV} {P : Option Value → pmT → pmV → Prop} {pc : Nat} {a : Nat} {x0 : Int32} (hM : M.1 = 1) (hd : decode M.2.2.1 pc = .ok (.invokevirtual 167, 3)) (hkd : pmKind T a = 8) (hn : pmNum r ≤ 8) (k : EvP X d MX8_carries 0 [.ref a, .int x0] [] T v (fun o T' v' => EvP X (d + 1) M (pc + 3) ls (pmPush o r) T' v' P)) : EvP X (d + 1) M pc ls (.int x0 :: .ref a :: r) T v P :=
  ev_callV (as := [.int x0]) pc hd (by rw [hM]; exact rfl) hkd rfl pl_66 rfl hn (Nat.le_of_ble_eq_true rfl) rfl k
theorem cv_1_167_10 {X : pmX} {d : Nat} {M : pmM} {ls r : List Value} {T : pmT} {v : pmV} {P : Option Value → pmT → pmV → Prop} {pc : Nat} {a : Nat} {x0 : Int32} (hM : M.1 = 1) (hd : decode M.2.2.1 pc = .ok (.invokevirtual 167, 3)) (hkd : pmKind T a = 10) (hn : pmNum r ≤ 8) (k : EvP X d MX10_carries 0 [.ref a, .int x0] [] T v (fun o T' v' => EvP X (d + 1) M (pc + 3) ls (pmPush o r) T' v' P)) : EvP X (d + 1) M pc ls (.int x0 :: .ref a :: r) T v P :=
  ev_callV (as := [.int x0]) pc hd (by rw [hM]; exact rfl) hkd rfl pl_74 rfl hn (Nat.le_of_ble_eq_true rfl) rfl k
theorem cv_1_170_0 {X : pmX} {d : Nat} {M : pmM} {ls r : List Value} {T : pmT} {v : pmV} {P : Option Value → pmT → pmV → Prop} {pc : Nat} {a : Nat}  (hM : M.1 = 1) (hd : decode M.2.2.1 pc = .ok (.invokevirtual 170, 3)) (hkd : pmKind T a = 0) (hn : pmNum r ≤ 8) (k : EvP X d MX0_takesBusesAlone 0 [.ref a] [] T v (fun o T' v' => EvP X (d + 1) M (pc + 3) ls (pmPush o r) T' v' P)) : EvP X (d + 1) M pc ls (.ref a :: r) T v P :=
  ev_callV (as := []) pc hd (by rw [hM]; exact rfl) hkd rfl pl_1 rfl hn (Nat.le_of_ble_eq_true rfl) rfl k
theorem cv_1_170_2 {X : pmX} {d : Nat} {M : pmM} {ls r : List Value} {T : pmT} {v : pmV} {P : Option Value → pmT → pmV → Prop} {pc : Nat} {a : Nat}  (hM : M.1 = 1) (hd : decode M.2.2.1 pc = .ok (.invokevirtual 170, 3)) (hkd : pmKind T a = 2) (hn : pmNum r ≤ 8) (k : EvP X d MX3_takesBusesAlone 0 [.ref a] [] T v (fun o T' v' => EvP X (d + 1) M (pc + 3) ls (pmPush o r) T' v' P)) : EvP X (d + 1) M pc ls (.ref a :: r) T v P :=
  ev_callV (as := []) pc hd (by rw [hM]; exact rfl) hkd rfl pl_22 rfl hn (Nat.le_of_ble_eq_true rfl) rfl k
theorem cv_1_170_3 {X : pmX} {d : Nat} {M : pmM} {ls r : List Value} {T : pmT} {v : pmV} {P : Option Value → pmT → pmV → Prop} {pc : Nat} {a : Nat}  (hM : M.1 = 1) (hd : decode M.2.2.1 pc = .ok (.invokevirtual 170, 3)) (hkd : pmKind T a = 3) (hn : pmNum r ≤ 8) (k : EvP X d MX3_takesBusesAlone 0 [.ref a] [] T v (fun o T' v' => EvP X (d + 1) M (pc + 3) ls (pmPush o r) T' v' P)) : EvP X (d + 1) M pc ls (.ref a :: r) T v P :=
  ev_callV (as := []) pc hd (by rw [hM]; exact rfl) hkd rfl pl_22 rfl hn (Nat.le_of_ble_eq_true rfl) rfl k
theorem cv_1_170_7 {X : pmX} {d : Nat} {M : pmM} {ls r : List Value} {T : pmT} {v : pmV} {P : Option Value → pmT → pmV → Prop} {pc : Nat} {a : Nat}  (hM : M.1 = 1) (hd : decode M.2.2.1 pc = .ok (.invokevirtual 170, 3)) (hkd : pmKind T a = 7) (hn : pmNum r ≤ 8) (k : EvP X d MX3_takesBusesAlone 0 [.ref a] [] T v (fun o T' v' => EvP X (d + 1) M (pc + 3) ls (pmPush o r) T' v' P)) : EvP X (d + 1) M pc ls (.ref a :: r) T v P :=
  ev_callV (as := []) pc hd (by rw [hM]; exact rfl) hkd rfl pl_22 rfl hn (Nat.le_of_ble_eq_true rfl) rfl k
theorem cv_1_170_8 {X : pmX} {d : Nat} {M : pmM} {ls r : List Value} {T : pmT} {v : pmV} {P : Option Value → pmT → pmV → Prop} {pc : Nat} {a : Nat}  (hM : M.1 = 1) (hd : decode M.2.2.1 pc = .ok (.invokevirtual 170, 3)) (hkd : pmKind T a = 8) (hn : pmNum r ≤ 8) (k : EvP X d MX0_takesBusesAlone 0 [.ref a] [] T v (fun o T' v' => EvP X (d + 1) M (pc + 3) ls (pmPush o r) T' v' P)) : EvP X (d + 1) M pc ls (.ref a :: r) T v P :=
  ev_callV (as := []) pc hd (by rw [hM]; exact rfl) hkd rfl pl_1 rfl hn (Nat.le_of_ble_eq_true rfl) rfl k
theorem cv_1_170_10 {X : pmX} {d : Nat} {M : pmM} {ls r : List Value} {T : pmT} {v : pmV} {P : Option Value → pmT → pmV → Prop} {pc : Nat} {a : Nat}  (hM : M.1 = 1) (hd : decode M.2.2.1 pc = .ok (.invokevirtual 170, 3)) (hkd : pmKind T a = 10) (hn : pmNum r ≤ 8) (k : EvP X d MX3_takesBusesAlone 0 [.ref a] [] T v (fun o T' v' => EvP X (d + 1) M (pc + 3) ls (pmPush o r) T' v' P)) : EvP X (d + 1) M pc ls (.ref a :: r) T v P :=
  ev_callV (as := []) pc hd (by rw [hM]; exact rfl) hkd rfl pl_22 rfl hn (Nat.le_of_ble_eq_true rfl) rfl k
theorem cv_1_174_9 {X : pmX} {d : Nat} {M : pmM} {ls r : List Value} {T : pmT} {v : pmV} {P : Option Value → pmT → pmV → Prop} {pc : Nat} {a : Nat} {x0 : Int32} {x1 : Nat} (hM : M.1 = 1) (hd : decode M.2.2.1 pc = .ok (.invokevirtual 174, 3)) (hkd : pmKind T a = 9) (hn : pmNum r ≤ 8) (k : EvP X d MX9_value 0 [.ref a, .int x0, .ref x1, pmJ, pmJ, pmJ] [] T v (fun o T' v' => EvP X (d + 1) M (pc + 3) ls (pmPush o r) T' v' P)) : EvP X (d + 1) M pc ls (.ref x1 :: .int x0 :: .ref a :: r) T v P :=
  ev_callV (as := [.int x0, .ref x1]) pc hd (by rw [hM]; exact rfl) hkd rfl pl_70 rfl hn (Nat.le_of_ble_eq_true rfl) rfl k
theorem cv_4_35_20 {X : pmX} {d : Nat} {M : pmM} {ls r : List Value} {T : pmT} {v : pmV} {P : Option Value → pmT → pmV → Prop} {pc : Nat} {a : Nat}  (hM : M.1 = 4) (hd : decode M.2.2.1 pc = .ok (.invokevirtual 35, 3)) (hkd : pmKind T a = 20) (hn : pmNum r ≤ 8) (k : EvP X d MJ0_length_8abf5 0 [.ref a] [] T v (fun o T' v' => EvP X (d + 1) M (pc + 3) ls (pmPush o r) T' v' P)) : EvP X (d + 1) M pc ls (.ref a :: r) T v P :=
  ev_callV (as := []) pc hd (by rw [hM]; exact rfl) hkd rfl pl_181 rfl hn (Nat.le_of_ble_eq_true rfl) rfl k
theorem cv_4_41_20 {X : pmX} {d : Nat} {M : pmM} {ls r : List Value} {T : pmT} {v : pmV} {P : Option Value → pmT → pmV → Prop} {pc : Nat} {a : Nat} {x0 : Int32} (hM : M.1 = 4) (hd : decode M.2.2.1 pc = .ok (.invokevirtual 41, 3)) (hkd : pmKind T a = 20) (hn : pmNum r ≤ 8) (k : EvP X d MJ0_charAt_5068e 0 [.ref a, .int x0] [] T v (fun o T' v' => EvP X (d + 1) M (pc + 3) ls (pmPush o r) T' v' P)) : EvP X (d + 1) M pc ls (.int x0 :: .ref a :: r) T v P :=
  ev_callV (as := [.int x0]) pc hd (by rw [hM]; exact rfl) hkd rfl pl_182 rfl hn (Nat.le_of_ble_eq_true rfl) rfl k
theorem cv_4_45_4 {X : pmX} {d : Nat} {M : pmM} {ls r : List Value} {T : pmT} {v : pmV} {P : Option Value → pmT → pmV → Prop} {pc : Nat} {a : Nat} {x0 : Int32} (hM : M.1 = 4) (hd : decode M.2.2.1 pc = .ok (.invokevirtual 45, 3)) (hkd : pmKind T a = 4) (hn : pmNum r ≤ 8) (k : EvP X d MX4_append 0 [.ref a, .int x0] [] T v (fun o T' v' => EvP X (d + 1) M (pc + 3) ls (pmPush o r) T' v' P)) : EvP X (d + 1) M pc ls (.int x0 :: .ref a :: r) T v P :=
  ev_callV (as := [.int x0]) pc hd (by rw [hM]; exact rfl) hkd rfl pl_27 rfl hn (Nat.le_of_ble_eq_true rfl) rfl k
theorem cv_4_49_4 {X : pmX} {d : Nat} {M : pmM} {ls r : List Value} {T : pmT} {v : pmV} {P : Option Value → pmT → pmV → Prop} {pc : Nat} {a : Nat}  (hM : M.1 = 4) (hd : decode M.2.2.1 pc = .ok (.invokevirtual 49, 3)) (hkd : pmKind T a = 4) (hn : pmNum r ≤ 8) (k : EvP X d MX4_split 0 [.ref a, pmJ, pmJ, pmJ, pmJ] [] T v (fun o T' v' => EvP X (d + 1) M (pc + 3) ls (pmPush o r) T' v' P)) : EvP X (d + 1) M pc ls (.ref a :: r) T v P :=
  ev_callV (as := []) pc hd (by rw [hM]; exact rfl) hkd rfl pl_29 rfl hn (Nat.le_of_ble_eq_true rfl) rfl k
theorem cv_4_58_4 {X : pmX} {d : Nat} {M : pmM} {ls r : List Value} {T : pmT} {v : pmV} {P : Option Value → pmT → pmV → Prop} {pc : Nat} {a : Nat} {x0 : Int32} (hM : M.1 = 4) (hd : decode M.2.2.1 pc = .ok (.invokevirtual 58, 3)) (hkd : pmKind T a = 4) (hn : pmNum r ≤ 8) (k : EvP X d MX4_readPart 0 [.ref a, .int x0] [] T v (fun o T' v' => EvP X (d + 1) M (pc + 3) ls (pmPush o r) T' v' P)) : EvP X (d + 1) M pc ls (.int x0 :: .ref a :: r) T v P :=
  ev_callV (as := [.int x0]) pc hd (by rw [hM]; exact rfl) hkd rfl pl_41 rfl hn (Nat.le_of_ble_eq_true rfl) rfl k
theorem cv_4_62_4 {X : pmX} {d : Nat} {M : pmM} {ls r : List Value} {T : pmT} {v : pmV} {P : Option Value → pmT → pmV → Prop} {pc : Nat} {a : Nat}  (hM : M.1 = 4) (hd : decode M.2.2.1 pc = .ok (.invokevirtual 62, 3)) (hkd : pmKind T a = 4) (hn : pmNum r ≤ 8) (k : EvP X d MX4_token 0 [.ref a] [] T v (fun o T' v' => EvP X (d + 1) M (pc + 3) ls (pmPush o r) T' v' P)) : EvP X (d + 1) M pc ls (.ref a :: r) T v P :=
  ev_callV (as := []) pc hd (by rw [hM]; exact rfl) hkd rfl pl_49 rfl hn (Nat.le_of_ble_eq_true rfl) rfl k
theorem cv_4_65_4 {X : pmX} {d : Nat} {M : pmM} {ls r : List Value} {T : pmT} {v : pmV} {P : Option Value → pmT → pmV → Prop} {pc : Nat} {a : Nat} {x0 : Int32} (hM : M.1 = 4) (hd : decode M.2.2.1 pc = .ok (.invokevirtual 65, 3)) (hkd : pmKind T a = 4) (hn : pmNum r ≤ 8) (k : EvP X d MX4_endOfToken 0 [.ref a, .int x0, pmJ] [] T v (fun o T' v' => EvP X (d + 1) M (pc + 3) ls (pmPush o r) T' v' P)) : EvP X (d + 1) M pc ls (.int x0 :: .ref a :: r) T v P :=
  ev_callV (as := [.int x0]) pc hd (by rw [hM]; exact rfl) hkd rfl pl_30 rfl hn (Nat.le_of_ble_eq_true rfl) rfl k
theorem cv_4_72_4 {X : pmX} {d : Nat} {M : pmM} {ls r : List Value} {T : pmT} {v : pmV} {P : Option Value → pmT → pmV → Prop} {pc : Nat} {a : Nat} {x0 : Int32} {x1 : Int32} {x2 : Int32} (hM : M.1 = 4) (hd : decode M.2.2.1 pc = .ok (.invokevirtual 72, 3)) (hkd : pmKind T a = 4) (hn : pmNum r ≤ 8) (k : EvP X d MX4_takeToken 0 [.ref a, .int x0, .int x1, .int x2] [] T v (fun o T' v' => EvP X (d + 1) M (pc + 3) ls (pmPush o r) T' v' P)) : EvP X (d + 1) M pc ls (.int x2 :: .int x1 :: .int x0 :: .ref a :: r) T v P :=
  ev_callV (as := [.int x0, .int x1, .int x2]) pc hd (by rw [hM]; exact rfl) hkd rfl pl_32 rfl hn (Nat.le_of_ble_eq_true rfl) rfl k
theorem cv_4_86_4 {X : pmX} {d : Nat} {M : pmM} {ls r : List Value} {T : pmT} {v : pmV} {P : Option Value → pmT → pmV → Prop} {pc : Nat} {a : Nat} {x0 : Int32} {x1 : Int32} {x2 : Int32} (hM : M.1 = 4) (hd : decode M.2.2.1 pc = .ok (.invokevirtual 86, 3)) (hkd : pmKind T a = 4) (hn : pmNum r ≤ 8) (k : EvP X d MX4_takeWord 0 [.ref a, .int x0, .int x1, .int x2, pmJ] [] T v (fun o T' v' => EvP X (d + 1) M (pc + 3) ls (pmPush o r) T' v' P)) : EvP X (d + 1) M pc ls (.int x2 :: .int x1 :: .int x0 :: .ref a :: r) T v P :=
  ev_callV (as := [.int x0, .int x1, .int x2]) pc hd (by rw [hM]; exact rfl) hkd rfl pl_33 rfl hn (Nat.le_of_ble_eq_true rfl) rfl k
theorem cv_4_89_4 {X : pmX} {d : Nat} {M : pmM} {ls r : List Value} {T : pmT} {v : pmV} {P : Option Value → pmT → pmV → Prop} {pc : Nat} {a : Nat} {x0 : Int32} {x1 : Int32} {x2 : Int32} (hM : M.1 = 4) (hd : decode M.2.2.1 pc = .ok (.invokevirtual 89, 3)) (hkd : pmKind T a = 4) (hn : pmNum r ≤ 8) (k : EvP X d MX4_takeNumber 0 [.ref a, .int x0, .int x1, .int x2, pmJ, pmJ] [] T v (fun o T' v' => EvP X (d + 1) M (pc + 3) ls (pmPush o r) T' v' P)) : EvP X (d + 1) M pc ls (.int x2 :: .int x1 :: .int x0 :: .ref a :: r) T v P :=
  ev_callV (as := [.int x0, .int x1, .int x2]) pc hd (by rw [hM]; exact rfl) hkd rfl pl_34 rfl hn (Nat.le_of_ble_eq_true rfl) rfl k
theorem cv_4_99_4 {X : pmX} {d : Nat} {M : pmM} {ls r : List Value} {T : pmT} {v : pmV} {P : Option Value → pmT → pmV → Prop} {pc : Nat} {a : Nat} {x0 : Nat} {x1 : Int32} {x2 : Int32} (hM : M.1 = 4) (hd : decode M.2.2.1 pc = .ok (.invokevirtual 99, 3)) (hkd : pmKind T a = 4) (hn : pmNum r ≤ 8) (k : EvP X d MX4_isWord 0 [.ref a, .ref x0, .int x1, .int x2, pmJ, pmJ] [] T v (fun o T' v' => EvP X (d + 1) M (pc + 3) ls (pmPush o r) T' v' P)) : EvP X (d + 1) M pc ls (.int x2 :: .int x1 :: .ref x0 :: .ref a :: r) T v P :=
  ev_callV (as := [.ref x0, .int x1, .int x2]) pc hd (by rw [hM]; exact rfl) hkd rfl pl_35 rfl hn (Nat.le_of_ble_eq_true rfl) rfl k
theorem cv_4_129_20 {X : pmX} {d : Nat} {M : pmM} {ls r : List Value} {T : pmT} {v : pmV} {P : Option Value → pmT → pmV → Prop} {pc : Nat} {a : Nat} {x0 : Int32} (hM : M.1 = 4) (hd : decode M.2.2.1 pc = .ok (.invokevirtual 129, 3)) (hkd : pmKind T a = 20) (hn : pmNum r ≤ 8) (k : EvP X d MJ0_indexOf_0f7a4 0 [.ref a, .int x0] [] T v (fun o T' v' => EvP X (d + 1) M (pc + 3) ls (pmPush o r) T' v' P)) : EvP X (d + 1) M pc ls (.int x0 :: .ref a :: r) T v P :=
  ev_callV (as := [.int x0]) pc hd (by rw [hM]; exact rfl) hkd rfl pl_183 rfl hn (Nat.le_of_ble_eq_true rfl) rfl k
theorem cv_4_132_4 {X : pmX} {d : Nat} {M : pmM} {ls r : List Value} {T : pmT} {v : pmV} {P : Option Value → pmT → pmV → Prop} {pc : Nat} {a : Nat} {x0 : Int32} (hM : M.1 = 4) (hd : decode M.2.2.1 pc = .ok (.invokevirtual 132, 3)) (hkd : pmKind T a = 4) (hn : pmNum r ≤ 8) (k : EvP X d MX4_pass 0 [.ref a, .int x0] [] T v (fun o T' v' => EvP X (d + 1) M (pc + 3) ls (pmPush o r) T' v' P)) : EvP X (d + 1) M pc ls (.int x0 :: .ref a :: r) T v P :=
  ev_callV (as := [.int x0]) pc hd (by rw [hM]; exact rfl) hkd rfl pl_50 rfl hn (Nat.le_of_ble_eq_true rfl) rfl k
theorem cv_4_135_4 {X : pmX} {d : Nat} {M : pmM} {ls r : List Value} {T : pmT} {v : pmV} {P : Option Value → pmT → pmV → Prop} {pc : Nat} {a : Nat} {x0 : Int32} (hM : M.1 = 4) (hd : decode M.2.2.1 pc = .ok (.invokevirtual 135, 3)) (hkd : pmKind T a = 4) (hn : pmNum r ≤ 8) (k : EvP X d MX4_readOr 0 [.ref a, .int x0, pmJ, pmJ] [] T v (fun o T' v' => EvP X (d + 1) M (pc + 3) ls (pmPush o r) T' v' P)) : EvP X (d + 1) M pc ls (.int x0 :: .ref a :: r) T v P :=
  ev_callV (as := [.int x0]) pc hd (by rw [hM]; exact rfl) hkd rfl pl_42 rfl hn (Nat.le_of_ble_eq_true rfl) rfl k
theorem cv_4_141_4 {X : pmX} {d : Nat} {M : pmM} {ls r : List Value} {T : pmT} {v : pmV} {P : Option Value → pmT → pmV → Prop} {pc : Nat} {a : Nat} {x0 : Int32} (hM : M.1 = 4) (hd : decode M.2.2.1 pc = .ok (.invokevirtual 141, 3)) (hkd : pmKind T a = 4) (hn : pmNum r ≤ 8) (k : EvP X d MX4_readAnd 0 [.ref a, .int x0, pmJ, pmJ] [] T v (fun o T' v' => EvP X (d + 1) M (pc + 3) ls (pmPush o r) T' v' P)) : EvP X (d + 1) M pc ls (.int x0 :: .ref a :: r) T v P :=
  ev_callV (as := [.int x0]) pc hd (by rw [hM]; exact rfl) hkd rfl pl_43 rfl hn (Nat.le_of_ble_eq_true rfl) rfl k
theorem cv_4_144_4 {X : pmX} {d : Nat} {M : pmM} {ls r : List Value} {T : pmT} {v : pmV} {P : Option Value → pmT → pmV → Prop} {pc : Nat} {a : Nat} {x0 : Int32} (hM : M.1 = 4) (hd : decode M.2.2.1 pc = .ok (.invokevirtual 144, 3)) (hkd : pmKind T a = 4) (hn : pmNum r ≤ 8) (k : EvP X d MX4_put 0 [.ref a, .int x0] [] T v (fun o T' v' => EvP X (d + 1) M (pc + 3) ls (pmPush o r) T' v' P)) : EvP X (d + 1) M pc ls (.int x0 :: .ref a :: r) T v P :=
  ev_callV (as := [.int x0]) pc hd (by rw [hM]; exact rfl) hkd rfl pl_51 rfl hn (Nat.le_of_ble_eq_true rfl) rfl k
theorem cv_4_147_4 {X : pmX} {d : Nat} {M : pmM} {ls r : List Value} {T : pmT} {v : pmV} {P : Option Value → pmT → pmV → Prop} {pc : Nat} {a : Nat} {x0 : Int32} (hM : M.1 = 4) (hd : decode M.2.2.1 pc = .ok (.invokevirtual 147, 3)) (hkd : pmKind T a = 4) (hn : pmNum r ≤ 8) (k : EvP X d MX4_readNot 0 [.ref a, .int x0, pmJ] [] T v (fun o T' v' => EvP X (d + 1) M (pc + 3) ls (pmPush o r) T' v' P)) : EvP X (d + 1) M pc ls (.int x0 :: .ref a :: r) T v P :=
  ev_callV (as := [.int x0]) pc hd (by rw [hM]; exact rfl) hkd rfl pl_44 rfl hn (Nat.le_of_ble_eq_true rfl) rfl k
theorem cv_4_150_4 {X : pmX} {d : Nat} {M : pmM} {ls r : List Value} {T : pmT} {v : pmV} {P : Option Value → pmT → pmV → Prop} {pc : Nat} {a : Nat} {x0 : Int32} (hM : M.1 = 4) (hd : decode M.2.2.1 pc = .ok (.invokevirtual 150, 3)) (hkd : pmKind T a = 4) (hn : pmNum r ≤ 8) (k : EvP X d MX4_readCompared 0 [.ref a, .int x0, pmJ, pmJ] [] T v (fun o T' v' => EvP X (d + 1) M (pc + 3) ls (pmPush o r) T' v' P)) : EvP X (d + 1) M pc ls (.int x0 :: .ref a :: r) T v P :=
  ev_callV (as := [.int x0]) pc hd (by rw [hM]; exact rfl) hkd rfl pl_45 rfl hn (Nat.le_of_ble_eq_true rfl) rfl k
theorem cv_4_153_4 {X : pmX} {d : Nat} {M : pmM} {ls r : List Value} {T : pmT} {v : pmV} {P : Option Value → pmT → pmV → Prop} {pc : Nat} {a : Nat} {x0 : Int32} (hM : M.1 = 4) (hd : decode M.2.2.1 pc = .ok (.invokevirtual 153, 3)) (hkd : pmKind T a = 4) (hn : pmNum r ≤ 8) (k : EvP X d MX4_readSum 0 [.ref a, .int x0, pmJ, pmJ, pmJ] [] T v (fun o T' v' => EvP X (d + 1) M (pc + 3) ls (pmPush o r) T' v' P)) : EvP X (d + 1) M pc ls (.int x0 :: .ref a :: r) T v P :=
  ev_callV (as := [.int x0]) pc hd (by rw [hM]; exact rfl) hkd rfl pl_46 rfl hn (Nat.le_of_ble_eq_true rfl) rfl k
theorem cv_4_156_4 {X : pmX} {d : Nat} {M : pmM} {ls r : List Value} {T : pmT} {v : pmV} {P : Option Value → pmT → pmV → Prop} {pc : Nat} {a : Nat} {x0 : Int32} (hM : M.1 = 4) (hd : decode M.2.2.1 pc = .ok (.invokevirtual 156, 3)) (hkd : pmKind T a = 4) (hn : pmNum r ≤ 8) (k : EvP X d MX4_readTerm 0 [.ref a, .int x0, pmJ, pmJ] [] T v (fun o T' v' => EvP X (d + 1) M (pc + 3) ls (pmPush o r) T' v' P)) : EvP X (d + 1) M pc ls (.int x0 :: .ref a :: r) T v P :=
  ev_callV (as := [.int x0]) pc hd (by rw [hM]; exact rfl) hkd rfl pl_47 rfl hn (Nat.le_of_ble_eq_true rfl) rfl k
theorem cv_4_159_4 {X : pmX} {d : Nat} {M : pmM} {ls r : List Value} {T : pmT} {v : pmV} {P : Option Value → pmT → pmV → Prop} {pc : Nat} {a : Nat} {x0 : Int32} (hM : M.1 = 4) (hd : decode M.2.2.1 pc = .ok (.invokevirtual 159, 3)) (hkd : pmKind T a = 4) (hn : pmNum r ≤ 8) (k : EvP X d MX4_readOne 0 [.ref a, .int x0, pmJ] [] T v (fun o T' v' => EvP X (d + 1) M (pc + 3) ls (pmPush o r) T' v' P)) : EvP X (d + 1) M pc ls (.int x0 :: .ref a :: r) T v P :=
  ev_callV (as := [.int x0]) pc hd (by rw [hM]; exact rfl) hkd rfl pl_48 rfl hn (Nat.le_of_ble_eq_true rfl) rfl k
theorem cv_6_28_6 {X : pmX} {d : Nat} {M : pmM} {ls r : List Value} {T : pmT} {v : pmV} {P : Option Value → pmT → pmV → Prop} {pc : Nat} {a : Nat} {x0 : Int32} (hM : M.1 = 6) (hd : decode M.2.2.1 pc = .ok (.invokevirtual 28, 3)) (hkd : pmKind T a = 6) (hn : pmNum r ≤ 8) (k : EvP X d MX6_has 0 [.ref a, .int x0] [] T v (fun o T' v' => EvP X (d + 1) M (pc + 3) ls (pmPush o r) T' v' P)) : EvP X (d + 1) M pc ls (.int x0 :: .ref a :: r) T v P :=
  ev_callV (as := [.int x0]) pc hd (by rw [hM]; exact rfl) hkd rfl pl_59 rfl hn (Nat.le_of_ble_eq_true rfl) rfl k
theorem cv_11_59_4 {X : pmX} {d : Nat} {M : pmM} {ls r : List Value} {T : pmT} {v : pmV} {P : Option Value → pmT → pmV → Prop} {pc : Nat} {a : Nat} {x0 : Nat} (hM : M.1 = 11) (hd : decode M.2.2.1 pc = .ok (.invokevirtual 59, 3)) (hkd : pmKind T a = 4) (hn : pmNum r ≤ 8) (k : EvP X d MX4_lay 0 [.ref a, .ref x0, pmJ] [] T v (fun o T' v' => EvP X (d + 1) M (pc + 3) ls (pmPush o r) T' v' P)) : EvP X (d + 1) M pc ls (.ref x0 :: .ref a :: r) T v P :=
  ev_callV (as := [.ref x0]) pc hd (by rw [hM]; exact rfl) hkd rfl pl_26 rfl hn (Nat.le_of_ble_eq_true rfl) rfl k
theorem cv_11_63_4 {X : pmX} {d : Nat} {M : pmM} {ls r : List Value} {T : pmT} {v : pmV} {P : Option Value → pmT → pmV → Prop} {pc : Nat} {a : Nat} {x0 : Nat} (hM : M.1 = 11) (hd : decode M.2.2.1 pc = .ok (.invokevirtual 63, 3)) (hkd : pmKind T a = 4) (hn : pmNum r ≤ 8) (k : EvP X d MX4_read 0 [.ref a, .ref x0, pmJ] [] T v (fun o T' v' => EvP X (d + 1) M (pc + 3) ls (pmPush o r) T' v' P)) : EvP X (d + 1) M pc ls (.ref x0 :: .ref a :: r) T v P :=
  ev_callV (as := [.ref x0]) pc hd (by rw [hM]; exact rfl) hkd rfl pl_28 rfl hn (Nat.le_of_ble_eq_true rfl) rfl k
theorem cv_11_85_11 {X : pmX} {d : Nat} {M : pmM} {ls r : List Value} {T : pmT} {v : pmV} {P : Option Value → pmT → pmV → Prop} {pc : Nat} {a : Nat} {x0 : Int32} (hM : M.1 = 11) (hd : decode M.2.2.1 pc = .ok (.invokevirtual 85, 3)) (hkd : pmKind T a = 11) (hn : pmNum r ≤ 8) (k : EvP X d MX11_setEmpty 0 [.ref a, .int x0, pmJ] [] T v (fun o T' v' => EvP X (d + 1) M (pc + 3) ls (pmPush o r) T' v' P)) : EvP X (d + 1) M pc ls (.int x0 :: .ref a :: r) T v P :=
  ev_callV (as := [.int x0]) pc hd (by rw [hM]; exact rfl) hkd rfl pl_106 rfl hn (Nat.le_of_ble_eq_true rfl) rfl k
theorem cv_11_100_11 {X : pmX} {d : Nat} {M : pmM} {ls r : List Value} {T : pmT} {v : pmV} {P : Option Value → pmT → pmV → Prop} {pc : Nat} {a : Nat} {x0 : Int32} (hM : M.1 = 11) (hd : decode M.2.2.1 pc = .ok (.invokevirtual 100, 3)) (hkd : pmKind T a = 11) (hn : pmNum r ≤ 8) (k : EvP X d MX11_sheetOf 0 [.ref a, .int x0] [] T v (fun o T' v' => EvP X (d + 1) M (pc + 3) ls (pmPush o r) T' v' P)) : EvP X (d + 1) M pc ls (.int x0 :: .ref a :: r) T v P :=
  ev_callV (as := [.int x0]) pc hd (by rw [hM]; exact rfl) hkd rfl pl_105 rfl hn (Nat.le_of_ble_eq_true rfl) rfl k
theorem cv_11_104_6 {X : pmX} {d : Nat} {M : pmM} {ls r : List Value} {T : pmT} {v : pmV} {P : Option Value → pmT → pmV → Prop} {pc : Nat} {a : Nat}  (hM : M.1 = 11) (hd : decode M.2.2.1 pc = .ok (.invokevirtual 104, 3)) (hkd : pmKind T a = 6) (hn : pmNum r ≤ 8) (k : EvP X d MX6_isMissing 0 [.ref a] [] T v (fun o T' v' => EvP X (d + 1) M (pc + 3) ls (pmPush o r) T' v' P)) : EvP X (d + 1) M pc ls (.ref a :: r) T v P :=
  ev_callV (as := []) pc hd (by rw [hM]; exact rfl) hkd rfl pl_57 rfl hn (Nat.le_of_ble_eq_true rfl) rfl k
theorem cv_11_108_6 {X : pmX} {d : Nat} {M : pmM} {ls r : List Value} {T : pmT} {v : pmV} {P : Option Value → pmT → pmV → Prop} {pc : Nat} {a : Nat} {x0 : Int32} (hM : M.1 = 11) (hd : decode M.2.2.1 pc = .ok (.invokevirtual 108, 3)) (hkd : pmKind T a = 6) (hn : pmNum r ≤ 8) (k : EvP X d MX6_has 0 [.ref a, .int x0] [] T v (fun o T' v' => EvP X (d + 1) M (pc + 3) ls (pmPush o r) T' v' P)) : EvP X (d + 1) M pc ls (.int x0 :: .ref a :: r) T v P :=
  ev_callV (as := [.int x0]) pc hd (by rw [hM]; exact rfl) hkd rfl pl_59 rfl hn (Nat.le_of_ble_eq_true rfl) rfl k
theorem cv_11_112_6 {X : pmX} {d : Nat} {M : pmM} {ls r : List Value} {T : pmT} {v : pmV} {P : Option Value → pmT → pmV → Prop} {pc : Nat} {a : Nat} {x0 : Int32} (hM : M.1 = 11) (hd : decode M.2.2.1 pc = .ok (.invokevirtual 112, 3)) (hkd : pmKind T a = 6) (hn : pmNum r ≤ 8) (k : EvP X d MX6_at 0 [.ref a, .int x0] [] T v (fun o T' v' => EvP X (d + 1) M (pc + 3) ls (pmPush o r) T' v' P)) : EvP X (d + 1) M pc ls (.int x0 :: .ref a :: r) T v P :=
  ev_callV (as := [.int x0]) pc hd (by rw [hM]; exact rfl) hkd rfl pl_61 rfl hn (Nat.le_of_ble_eq_true rfl) rfl k
theorem cv_11_118_11 {X : pmX} {d : Nat} {M : pmM} {ls r : List Value} {T : pmT} {v : pmV} {P : Option Value → pmT → pmV → Prop} {pc : Nat} {a : Nat} {x0 : Int32} (hM : M.1 = 11) (hd : decode M.2.2.1 pc = .ok (.invokevirtual 118, 3)) (hkd : pmKind T a = 11) (hn : pmNum r ≤ 8) (k : EvP X d MX11_laneOf 0 [.ref a, .int x0] [] T v (fun o T' v' => EvP X (d + 1) M (pc + 3) ls (pmPush o r) T' v' P)) : EvP X (d + 1) M pc ls (.int x0 :: .ref a :: r) T v P :=
  ev_callV (as := [.int x0]) pc hd (by rw [hM]; exact rfl) hkd rfl pl_104 rfl hn (Nat.le_of_ble_eq_true rfl) rfl k
theorem cv_11_140_0 {X : pmX} {d : Nat} {M : pmM} {ls r : List Value} {T : pmT} {v : pmV} {P : Option Value → pmT → pmV → Prop} {pc : Nat} {a : Nat} {x0 : Int32} (hM : M.1 = 11) (hd : decode M.2.2.1 pc = .ok (.invokevirtual 140, 3)) (hkd : pmKind T a = 0) (hn : pmNum r ≤ 8) (k : EvP X d MX3_rests 0 [.ref a, .int x0] [] T v (fun o T' v' => EvP X (d + 1) M (pc + 3) ls (pmPush o r) T' v' P)) : EvP X (d + 1) M pc ls (.int x0 :: .ref a :: r) T v P :=
  ev_callV (as := [.int x0]) pc hd (by rw [hM]; exact rfl) hkd rfl pl_24 rfl hn (Nat.le_of_ble_eq_true rfl) rfl k
theorem cv_11_140_2 {X : pmX} {d : Nat} {M : pmM} {ls r : List Value} {T : pmT} {v : pmV} {P : Option Value → pmT → pmV → Prop} {pc : Nat} {a : Nat} {x0 : Int32} (hM : M.1 = 11) (hd : decode M.2.2.1 pc = .ok (.invokevirtual 140, 3)) (hkd : pmKind T a = 2) (hn : pmNum r ≤ 8) (k : EvP X d MX3_rests 0 [.ref a, .int x0] [] T v (fun o T' v' => EvP X (d + 1) M (pc + 3) ls (pmPush o r) T' v' P)) : EvP X (d + 1) M pc ls (.int x0 :: .ref a :: r) T v P :=
  ev_callV (as := [.int x0]) pc hd (by rw [hM]; exact rfl) hkd rfl pl_24 rfl hn (Nat.le_of_ble_eq_true rfl) rfl k
theorem cv_11_140_3 {X : pmX} {d : Nat} {M : pmM} {ls r : List Value} {T : pmT} {v : pmV} {P : Option Value → pmT → pmV → Prop} {pc : Nat} {a : Nat} {x0 : Int32} (hM : M.1 = 11) (hd : decode M.2.2.1 pc = .ok (.invokevirtual 140, 3)) (hkd : pmKind T a = 3) (hn : pmNum r ≤ 8) (k : EvP X d MX3_rests 0 [.ref a, .int x0] [] T v (fun o T' v' => EvP X (d + 1) M (pc + 3) ls (pmPush o r) T' v' P)) : EvP X (d + 1) M pc ls (.int x0 :: .ref a :: r) T v P :=
  ev_callV (as := [.int x0]) pc hd (by rw [hM]; exact rfl) hkd rfl pl_24 rfl hn (Nat.le_of_ble_eq_true rfl) rfl k
theorem cv_11_140_7 {X : pmX} {d : Nat} {M : pmM} {ls r : List Value} {T : pmT} {v : pmV} {P : Option Value → pmT → pmV → Prop} {pc : Nat} {a : Nat} {x0 : Int32} (hM : M.1 = 11) (hd : decode M.2.2.1 pc = .ok (.invokevirtual 140, 3)) (hkd : pmKind T a = 7) (hn : pmNum r ≤ 8) (k : EvP X d MX10_rests 0 [.ref a, .int x0] [] T v (fun o T' v' => EvP X (d + 1) M (pc + 3) ls (pmPush o r) T' v' P)) : EvP X (d + 1) M pc ls (.int x0 :: .ref a :: r) T v P :=
  ev_callV (as := [.int x0]) pc hd (by rw [hM]; exact rfl) hkd rfl pl_75 rfl hn (Nat.le_of_ble_eq_true rfl) rfl k
theorem cv_11_140_8 {X : pmX} {d : Nat} {M : pmM} {ls r : List Value} {T : pmT} {v : pmV} {P : Option Value → pmT → pmV → Prop} {pc : Nat} {a : Nat} {x0 : Int32} (hM : M.1 = 11) (hd : decode M.2.2.1 pc = .ok (.invokevirtual 140, 3)) (hkd : pmKind T a = 8) (hn : pmNum r ≤ 8) (k : EvP X d MX8_rests 0 [.ref a, .int x0] [] T v (fun o T' v' => EvP X (d + 1) M (pc + 3) ls (pmPush o r) T' v' P)) : EvP X (d + 1) M pc ls (.int x0 :: .ref a :: r) T v P :=
  ev_callV (as := [.int x0]) pc hd (by rw [hM]; exact rfl) hkd rfl pl_68 rfl hn (Nat.le_of_ble_eq_true rfl) rfl k
theorem cv_11_140_10 {X : pmX} {d : Nat} {M : pmM} {ls r : List Value} {T : pmT} {v : pmV} {P : Option Value → pmT → pmV → Prop} {pc : Nat} {a : Nat} {x0 : Int32} (hM : M.1 = 11) (hd : decode M.2.2.1 pc = .ok (.invokevirtual 140, 3)) (hkd : pmKind T a = 10) (hn : pmNum r ≤ 8) (k : EvP X d MX10_rests 0 [.ref a, .int x0] [] T v (fun o T' v' => EvP X (d + 1) M (pc + 3) ls (pmPush o r) T' v' P)) : EvP X (d + 1) M pc ls (.int x0 :: .ref a :: r) T v P :=
  ev_callV (as := [.int x0]) pc hd (by rw [hM]; exact rfl) hkd rfl pl_75 rfl hn (Nat.le_of_ble_eq_true rfl) rfl k
theorem cv_11_143_0 {X : pmX} {d : Nat} {M : pmM} {ls r : List Value} {T : pmT} {v : pmV} {P : Option Value → pmT → pmV → Prop} {pc : Nat} {a : Nat} {x0 : Int32} (hM : M.1 = 11) (hd : decode M.2.2.1 pc = .ok (.invokevirtual 143, 3)) (hkd : pmKind T a = 0) (hn : pmNum r ≤ 8) (k : EvP X d MX3_mayTurn 0 [.ref a, .int x0] [] T v (fun o T' v' => EvP X (d + 1) M (pc + 3) ls (pmPush o r) T' v' P)) : EvP X (d + 1) M pc ls (.int x0 :: .ref a :: r) T v P :=
  ev_callV (as := [.int x0]) pc hd (by rw [hM]; exact rfl) hkd rfl pl_23 rfl hn (Nat.le_of_ble_eq_true rfl) rfl k
theorem cv_11_143_2 {X : pmX} {d : Nat} {M : pmM} {ls r : List Value} {T : pmT} {v : pmV} {P : Option Value → pmT → pmV → Prop} {pc : Nat} {a : Nat} {x0 : Int32} (hM : M.1 = 11) (hd : decode M.2.2.1 pc = .ok (.invokevirtual 143, 3)) (hkd : pmKind T a = 2) (hn : pmNum r ≤ 8) (k : EvP X d MX2_mayTurn 0 [.ref a, .int x0] [] T v (fun o T' v' => EvP X (d + 1) M (pc + 3) ls (pmPush o r) T' v' P)) : EvP X (d + 1) M pc ls (.int x0 :: .ref a :: r) T v P :=
  ev_callV (as := [.int x0]) pc hd (by rw [hM]; exact rfl) hkd rfl pl_19 rfl hn (Nat.le_of_ble_eq_true rfl) rfl k
theorem cv_11_143_3 {X : pmX} {d : Nat} {M : pmM} {ls r : List Value} {T : pmT} {v : pmV} {P : Option Value → pmT → pmV → Prop} {pc : Nat} {a : Nat} {x0 : Int32} (hM : M.1 = 11) (hd : decode M.2.2.1 pc = .ok (.invokevirtual 143, 3)) (hkd : pmKind T a = 3) (hn : pmNum r ≤ 8) (k : EvP X d MX3_mayTurn 0 [.ref a, .int x0] [] T v (fun o T' v' => EvP X (d + 1) M (pc + 3) ls (pmPush o r) T' v' P)) : EvP X (d + 1) M pc ls (.int x0 :: .ref a :: r) T v P :=
  ev_callV (as := [.int x0]) pc hd (by rw [hM]; exact rfl) hkd rfl pl_23 rfl hn (Nat.le_of_ble_eq_true rfl) rfl k
theorem cv_11_143_7 {X : pmX} {d : Nat} {M : pmM} {ls r : List Value} {T : pmT} {v : pmV} {P : Option Value → pmT → pmV → Prop} {pc : Nat} {a : Nat} {x0 : Int32} (hM : M.1 = 11) (hd : decode M.2.2.1 pc = .ok (.invokevirtual 143, 3)) (hkd : pmKind T a = 7) (hn : pmNum r ≤ 8) (k : EvP X d MX3_mayTurn 0 [.ref a, .int x0] [] T v (fun o T' v' => EvP X (d + 1) M (pc + 3) ls (pmPush o r) T' v' P)) : EvP X (d + 1) M pc ls (.int x0 :: .ref a :: r) T v P :=
  ev_callV (as := [.int x0]) pc hd (by rw [hM]; exact rfl) hkd rfl pl_23 rfl hn (Nat.le_of_ble_eq_true rfl) rfl k
theorem cv_11_143_8 {X : pmX} {d : Nat} {M : pmM} {ls r : List Value} {T : pmT} {v : pmV} {P : Option Value → pmT → pmV → Prop} {pc : Nat} {a : Nat} {x0 : Int32} (hM : M.1 = 11) (hd : decode M.2.2.1 pc = .ok (.invokevirtual 143, 3)) (hkd : pmKind T a = 8) (hn : pmNum r ≤ 8) (k : EvP X d MX8_mayTurn 0 [.ref a, .int x0] [] T v (fun o T' v' => EvP X (d + 1) M (pc + 3) ls (pmPush o r) T' v' P)) : EvP X (d + 1) M pc ls (.int x0 :: .ref a :: r) T v P :=
  ev_callV (as := [.int x0]) pc hd (by rw [hM]; exact rfl) hkd rfl pl_67 rfl hn (Nat.le_of_ble_eq_true rfl) rfl k
theorem cv_11_143_10 {X : pmX} {d : Nat} {M : pmM} {ls r : List Value} {T : pmT} {v : pmV} {P : Option Value → pmT → pmV → Prop} {pc : Nat} {a : Nat} {x0 : Int32} (hM : M.1 = 11) (hd : decode M.2.2.1 pc = .ok (.invokevirtual 143, 3)) (hkd : pmKind T a = 10) (hn : pmNum r ≤ 8) (k : EvP X d MX3_mayTurn 0 [.ref a, .int x0] [] T v (fun o T' v' => EvP X (d + 1) M (pc + 3) ls (pmPush o r) T' v' P)) : EvP X (d + 1) M pc ls (.int x0 :: .ref a :: r) T v P :=
  ev_callV (as := [.int x0]) pc hd (by rw [hM]; exact rfl) hkd rfl pl_23 rfl hn (Nat.le_of_ble_eq_true rfl) rfl k
theorem cv_11_146_0 {X : pmX} {d : Nat} {M : pmM} {ls r : List Value} {T : pmT} {v : pmV} {P : Option Value → pmT → pmV → Prop} {pc : Nat} {a : Nat} {x0 : Int32} (hM : M.1 = 11) (hd : decode M.2.2.1 pc = .ok (.invokevirtual 146, 3)) (hkd : pmKind T a = 0) (hn : pmNum r ≤ 8) (k : EvP X d MX3_carries 0 [.ref a, .int x0] [] T v (fun o T' v' => EvP X (d + 1) M (pc + 3) ls (pmPush o r) T' v' P)) : EvP X (d + 1) M pc ls (.int x0 :: .ref a :: r) T v P :=
  ev_callV (as := [.int x0]) pc hd (by rw [hM]; exact rfl) hkd rfl pl_21 rfl hn (Nat.le_of_ble_eq_true rfl) rfl k
theorem cv_11_146_2 {X : pmX} {d : Nat} {M : pmM} {ls r : List Value} {T : pmT} {v : pmV} {P : Option Value → pmT → pmV → Prop} {pc : Nat} {a : Nat} {x0 : Int32} (hM : M.1 = 11) (hd : decode M.2.2.1 pc = .ok (.invokevirtual 146, 3)) (hkd : pmKind T a = 2) (hn : pmNum r ≤ 8) (k : EvP X d MX3_carries 0 [.ref a, .int x0] [] T v (fun o T' v' => EvP X (d + 1) M (pc + 3) ls (pmPush o r) T' v' P)) : EvP X (d + 1) M pc ls (.int x0 :: .ref a :: r) T v P :=
  ev_callV (as := [.int x0]) pc hd (by rw [hM]; exact rfl) hkd rfl pl_21 rfl hn (Nat.le_of_ble_eq_true rfl) rfl k
theorem cv_11_146_3 {X : pmX} {d : Nat} {M : pmM} {ls r : List Value} {T : pmT} {v : pmV} {P : Option Value → pmT → pmV → Prop} {pc : Nat} {a : Nat} {x0 : Int32} (hM : M.1 = 11) (hd : decode M.2.2.1 pc = .ok (.invokevirtual 146, 3)) (hkd : pmKind T a = 3) (hn : pmNum r ≤ 8) (k : EvP X d MX3_carries 0 [.ref a, .int x0] [] T v (fun o T' v' => EvP X (d + 1) M (pc + 3) ls (pmPush o r) T' v' P)) : EvP X (d + 1) M pc ls (.int x0 :: .ref a :: r) T v P :=
  ev_callV (as := [.int x0]) pc hd (by rw [hM]; exact rfl) hkd rfl pl_21 rfl hn (Nat.le_of_ble_eq_true rfl) rfl k
theorem cv_11_146_7 {X : pmX} {d : Nat} {M : pmM} {ls r : List Value} {T : pmT} {v : pmV} {P : Option Value → pmT → pmV → Prop} {pc : Nat} {a : Nat} {x0 : Int32} (hM : M.1 = 11) (hd : decode M.2.2.1 pc = .ok (.invokevirtual 146, 3)) (hkd : pmKind T a = 7) (hn : pmNum r ≤ 8) (k : EvP X d MX7_carries 0 [.ref a, .int x0] [] T v (fun o T' v' => EvP X (d + 1) M (pc + 3) ls (pmPush o r) T' v' P)) : EvP X (d + 1) M pc ls (.int x0 :: .ref a :: r) T v P :=
  ev_callV (as := [.int x0]) pc hd (by rw [hM]; exact rfl) hkd rfl pl_64 rfl hn (Nat.le_of_ble_eq_true rfl) rfl k
theorem cv_11_146_8 {X : pmX} {d : Nat} {M : pmM} {ls r : List Value} {T : pmT} {v : pmV} {P : Option Value → pmT → pmV → Prop} {pc : Nat} {a : Nat} {x0 : Int32} (hM : M.1 = 11) (hd : decode M.2.2.1 pc = .ok (.invokevirtual 146, 3)) (hkd : pmKind T a = 8) (hn : pmNum r ≤ 8) (k : EvP X d MX8_carries 0 [.ref a, .int x0] [] T v (fun o T' v' => EvP X (d + 1) M (pc + 3) ls (pmPush o r) T' v' P)) : EvP X (d + 1) M pc ls (.int x0 :: .ref a :: r) T v P :=
  ev_callV (as := [.int x0]) pc hd (by rw [hM]; exact rfl) hkd rfl pl_66 rfl hn (Nat.le_of_ble_eq_true rfl) rfl k
theorem cv_11_146_10 {X : pmX} {d : Nat} {M : pmM} {ls r : List Value} {T : pmT} {v : pmV} {P : Option Value → pmT → pmV → Prop} {pc : Nat} {a : Nat} {x0 : Int32} (hM : M.1 = 11) (hd : decode M.2.2.1 pc = .ok (.invokevirtual 146, 3)) (hkd : pmKind T a = 10) (hn : pmNum r ≤ 8) (k : EvP X d MX10_carries 0 [.ref a, .int x0] [] T v (fun o T' v' => EvP X (d + 1) M (pc + 3) ls (pmPush o r) T' v' P)) : EvP X (d + 1) M pc ls (.int x0 :: .ref a :: r) T v P :=
  ev_callV (as := [.int x0]) pc hd (by rw [hM]; exact rfl) hkd rfl pl_74 rfl hn (Nat.le_of_ble_eq_true rfl) rfl k
theorem cv_11_149_4 {X : pmX} {d : Nat} {M : pmM} {ls r : List Value} {T : pmT} {v : pmV} {P : Option Value → pmT → pmV → Prop} {pc : Nat} {a : Nat} {x0 : Int32} (hM : M.1 = 11) (hd : decode M.2.2.1 pc = .ok (.invokevirtual 149, 3)) (hkd : pmKind T a = 4) (hn : pmNum r ≤ 8) (k : EvP X d MX4_append 0 [.ref a, .int x0] [] T v (fun o T' v' => EvP X (d + 1) M (pc + 3) ls (pmPush o r) T' v' P)) : EvP X (d + 1) M pc ls (.int x0 :: .ref a :: r) T v P :=
  ev_callV (as := [.int x0]) pc hd (by rw [hM]; exact rfl) hkd rfl pl_27 rfl hn (Nat.le_of_ble_eq_true rfl) rfl k
theorem cv_11_156_11 {X : pmX} {d : Nat} {M : pmM} {ls r : List Value} {T : pmT} {v : pmV} {P : Option Value → pmT → pmV → Prop} {pc : Nat} {a : Nat} {x0 : Int32} (hM : M.1 = 11) (hd : decode M.2.2.1 pc = .ok (.invokevirtual 156, 3)) (hkd : pmKind T a = 11) (hn : pmNum r ≤ 8) (k : EvP X d MX11_lacksPlan 0 [.ref a, .int x0, pmJ] [] T v (fun o T' v' => EvP X (d + 1) M (pc + 3) ls (pmPush o r) T' v' P)) : EvP X (d + 1) M pc ls (.int x0 :: .ref a :: r) T v P :=
  ev_callV (as := [.int x0]) pc hd (by rw [hM]; exact rfl) hkd rfl pl_108 rfl hn (Nat.le_of_ble_eq_true rfl) rfl k
theorem cv_11_161_11 {X : pmX} {d : Nat} {M : pmM} {ls r : List Value} {T : pmT} {v : pmV} {P : Option Value → pmT → pmV → Prop} {pc : Nat} {a : Nat} {x0 : Int32} {x1 : Int32} (hM : M.1 = 11) (hd : decode M.2.2.1 pc = .ok (.invokevirtual 161, 3)) (hkd : pmKind T a = 11) (hn : pmNum r ≤ 8) (k : EvP X d MX11_passBy 0 [.ref a, .int x0, .int x1, pmJ] [] T v (fun o T' v' => EvP X (d + 1) M (pc + 3) ls (pmPush o r) T' v' P)) : EvP X (d + 1) M pc ls (.int x1 :: .int x0 :: .ref a :: r) T v P :=
  ev_callV (as := [.int x0, .int x1]) pc hd (by rw [hM]; exact rfl) hkd rfl pl_110 rfl hn (Nat.le_of_ble_eq_true rfl) rfl k
theorem cv_11_178_1 {X : pmX} {d : Nat} {M : pmM} {ls r : List Value} {T : pmT} {v : pmV} {P : Option Value → pmT → pmV → Prop} {pc : Nat} {a : Nat}  (hM : M.1 = 11) (hd : decode M.2.2.1 pc = .ok (.invokevirtual 178, 3)) (hkd : pmKind T a = 1) (hn : pmNum r ≤ 8) (k : EvP X d MX1_waysAsBits 0 [.ref a, pmJ, pmJ] [] T v (fun o T' v' => EvP X (d + 1) M (pc + 3) ls (pmPush o r) T' v' P)) : EvP X (d + 1) M pc ls (.ref a :: r) T v P :=
  ev_callV (as := []) pc hd (by rw [hM]; exact rfl) hkd rfl pl_7 rfl hn (Nat.le_of_ble_eq_true rfl) rfl k
theorem cv_11_182_11 {X : pmX} {d : Nat} {M : pmM} {ls r : List Value} {T : pmT} {v : pmV} {P : Option Value → pmT → pmV → Prop} {pc : Nat} {a : Nat}  (hM : M.1 = 11) (hd : decode M.2.2.1 pc = .ok (.invokevirtual 182, 3)) (hkd : pmKind T a = 11) (hn : pmNum r ≤ 8) (k : EvP X d MX11_readyCourse 0 [.ref a] [] T v (fun o T' v' => EvP X (d + 1) M (pc + 3) ls (pmPush o r) T' v' P)) : EvP X (d + 1) M pc ls (.ref a :: r) T v P :=
  ev_callV (as := []) pc hd (by rw [hM]; exact rfl) hkd rfl pl_109 rfl hn (Nat.le_of_ble_eq_true rfl) rfl k
theorem cv_11_187_1 {X : pmX} {d : Nat} {M : pmM} {ls r : List Value} {T : pmT} {v : pmV} {P : Option Value → pmT → pmV → Prop} {pc : Nat} {a : Nat} {x0 : Int32} {x1 : Int64} (hM : M.1 = 11) (hd : decode M.2.2.1 pc = .ok (.invokevirtual 187, 3)) (hkd : pmKind T a = 1) (hn : pmNum r ≤ 8) (k : EvP X d MX1_pass 0 [.ref a, .int x0, .long x1, pmJ, pmJ] [] T v (fun o T' v' => EvP X (d + 1) M (pc + 3) ls (pmPush o r) T' v' P)) : EvP X (d + 1) M pc ls (.long x1 :: .int x0 :: .ref a :: r) T v P :=
  ev_callV (as := [.int x0, .long x1]) pc hd (by rw [hM]; exact rfl) hkd rfl pl_5 rfl hn (Nat.le_of_ble_eq_true rfl) rfl k
theorem cv_11_193_11 {X : pmX} {d : Nat} {M : pmM} {ls r : List Value} {T : pmT} {v : pmV} {P : Option Value → pmT → pmV → Prop} {pc : Nat} {a : Nat} {x0 : Int32} {x1 : Int32} {x2 : Int32} (hM : M.1 = 11) (hd : decode M.2.2.1 pc = .ok (.invokevirtual 193, 3)) (hkd : pmKind T a = 11) (hn : pmNum r ≤ 8) (k : EvP X d MX11_tryOne 0 [.ref a, .int x0, .int x1, .int x2] [] T v (fun o T' v' => EvP X (d + 1) M (pc + 3) ls (pmPush o r) T' v' P)) : EvP X (d + 1) M pc ls (.int x2 :: .int x1 :: .int x0 :: .ref a :: r) T v P :=
  ev_callV (as := [.int x0, .int x1, .int x2]) pc hd (by rw [hM]; exact rfl) hkd rfl pl_111 rfl hn (Nat.le_of_ble_eq_true rfl) rfl k
theorem cv_11_203_11 {X : pmX} {d : Nat} {M : pmM} {ls r : List Value} {T : pmT} {v : pmV} {P : Option Value → pmT → pmV → Prop} {pc : Nat} {a : Nat} {x0 : Nat} {x1 : Int32} {x2 : Int32} (hM : M.1 = 11) (hd : decode M.2.2.1 pc = .ok (.invokevirtual 203, 3)) (hkd : pmKind T a = 11) (hn : pmNum r ≤ 8) (k : EvP X d MX11_goesAndReturns 0 [.ref a, .ref x0, .int x1, .int x2] [] T v (fun o T' v' => EvP X (d + 1) M (pc + 3) ls (pmPush o r) T' v' P)) : EvP X (d + 1) M pc ls (.int x2 :: .int x1 :: .ref x0 :: .ref a :: r) T v P :=
  ev_callV (as := [.ref x0, .int x1, .int x2]) pc hd (by rw [hM]; exact rfl) hkd rfl pl_112 rfl hn (Nat.le_of_ble_eq_true rfl) rfl k
theorem cv_11_207_11 {X : pmX} {d : Nat} {M : pmM} {ls r : List Value} {T : pmT} {v : pmV} {P : Option Value → pmT → pmV → Prop} {pc : Nat} {a : Nat} {x0 : Int32} {x1 : Int32} {x2 : Int32} {x3 : Int32} (hM : M.1 = 11) (hd : decode M.2.2.1 pc = .ok (.invokevirtual 207, 3)) (hkd : pmKind T a = 11) (hn : pmNum r ≤ 8) (k : EvP X d MX11_tryTwo 0 [.ref a, .int x0, .int x1, .int x2, .int x3, pmJ, pmJ] [] T v (fun o T' v' => EvP X (d + 1) M (pc + 3) ls (pmPush o r) T' v' P)) : EvP X (d + 1) M pc ls (.int x3 :: .int x2 :: .int x1 :: .int x0 :: .ref a :: r) T v P :=
  ev_callV (as := [.int x0, .int x1, .int x2, .int x3]) pc hd (by rw [hM]; exact rfl) hkd rfl pl_113 rfl hn (Nat.le_of_ble_eq_true rfl) rfl k
theorem cv_11_220_1 {X : pmX} {d : Nat} {M : pmM} {ls r : List Value} {T : pmT} {v : pmV} {P : Option Value → pmT → pmV → Prop} {pc : Nat} {a : Nat} {x0 : Nat} (hM : M.1 = 11) (hd : decode M.2.2.1 pc = .ok (.invokevirtual 220, 3)) (hkd : pmKind T a = 1) (hn : pmNum r ≤ 8) (k : EvP X d MX1_tellPlan 0 [.ref a, .ref x0, pmJ] [] T v (fun o T' v' => EvP X (d + 1) M (pc + 3) ls (pmPush o r) T' v' P)) : EvP X (d + 1) M pc ls (.ref x0 :: .ref a :: r) T v P :=
  ev_callV (as := [.ref x0]) pc hd (by rw [hM]; exact rfl) hkd rfl pl_4 rfl hn (Nat.le_of_ble_eq_true rfl) rfl k
theorem cv_11_224_1 {X : pmX} {d : Nat} {M : pmM} {ls r : List Value} {T : pmT} {v : pmV} {P : Option Value → pmT → pmV → Prop} {pc : Nat} {a : Nat}  (hM : M.1 = 11) (hd : decode M.2.2.1 pc = .ok (.invokevirtual 224, 3)) (hkd : pmKind T a = 1) (hn : pmNum r ≤ 8) (k : EvP X d MX1_firstFaultOfPlan 0 [.ref a, pmJ] [] T v (fun o T' v' => EvP X (d + 1) M (pc + 3) ls (pmPush o r) T' v' P)) : EvP X (d + 1) M pc ls (.ref a :: r) T v P :=
  ev_callV (as := []) pc hd (by rw [hM]; exact rfl) hkd rfl pl_6 rfl hn (Nat.le_of_ble_eq_true rfl) rfl k
theorem cv_11_227_5 {X : pmX} {d : Nat} {M : pmM} {ls r : List Value} {T : pmT} {v : pmV} {P : Option Value → pmT → pmV → Prop} {pc : Nat} {a : Nat} {x0 : Nat} (hM : M.1 = 11) (hd : decode M.2.2.1 pc = .ok (.invokevirtual 227, 3)) (hkd : pmKind T a = 5) (hn : pmNum r ≤ 8) (k : EvP X d MX5_become 0 [.ref a, .ref x0] [] T v (fun o T' v' => EvP X (d + 1) M (pc + 3) ls (pmPush o r) T' v' P)) : EvP X (d + 1) M pc ls (.ref x0 :: .ref a :: r) T v P :=
  ev_callV (as := [.ref x0]) pc hd (by rw [hM]; exact rfl) hkd rfl pl_53 rfl hn (Nat.le_of_ble_eq_true rfl) rfl k
theorem cv_11_235_11 {X : pmX} {d : Nat} {M : pmM} {ls r : List Value} {T : pmT} {v : pmV} {P : Option Value → pmT → pmV → Prop} {pc : Nat} {a : Nat}  (hM : M.1 = 11) (hd : decode M.2.2.1 pc = .ok (.invokevirtual 235, 3)) (hkd : pmKind T a = 11) (hn : pmNum r ≤ 8) (k : EvP X d MX11_homeLanes 0 [.ref a, pmJ, pmJ] [] T v (fun o T' v' => EvP X (d + 1) M (pc + 3) ls (pmPush o r) T' v' P)) : EvP X (d + 1) M pc ls (.ref a :: r) T v P :=
  ev_callV (as := []) pc hd (by rw [hM]; exact rfl) hkd rfl pl_107 rfl hn (Nat.le_of_ble_eq_true rfl) rfl k
theorem cv_11_238_5 {X : pmX} {d : Nat} {M : pmM} {ls r : List Value} {T : pmT} {v : pmV} {P : Option Value → pmT → pmV → Prop} {pc : Nat} {a : Nat} {x0 : Int32} (hM : M.1 = 11) (hd : decode M.2.2.1 pc = .ok (.invokevirtual 238, 3)) (hkd : pmKind T a = 5) (hn : pmNum r ≤ 8) (k : EvP X d MX5_allComers 0 [.ref a, .int x0, pmJ, pmJ] [] T v (fun o T' v' => EvP X (d + 1) M (pc + 3) ls (pmPush o r) T' v' P)) : EvP X (d + 1) M pc ls (.int x0 :: .ref a :: r) T v P :=
  ev_callV (as := [.int x0]) pc hd (by rw [hM]; exact rfl) hkd rfl pl_55 rfl hn (Nat.le_of_ble_eq_true rfl) rfl k
theorem cv_11_241_6 {X : pmX} {d : Nat} {M : pmM} {ls r : List Value} {T : pmT} {v : pmV} {P : Option Value → pmT → pmV → Prop} {pc : Nat} {a : Nat} {x0 : Int32} {x1 : Int32} (hM : M.1 = 11) (hd : decode M.2.2.1 pc = .ok (.invokevirtual 241, 3)) (hkd : pmKind T a = 6) (hn : pmNum r ≤ 8) (k : EvP X d MX6_lay 0 [.ref a, .int x0, .int x1] [] T v (fun o T' v' => EvP X (d + 1) M (pc + 3) ls (pmPush o r) T' v' P)) : EvP X (d + 1) M pc ls (.int x1 :: .int x0 :: .ref a :: r) T v P :=
  ev_callV (as := [.int x0, .int x1]) pc hd (by rw [hM]; exact rfl) hkd rfl pl_58 rfl hn (Nat.le_of_ble_eq_true rfl) rfl k
theorem cv_11_243_6 {X : pmX} {d : Nat} {M : pmM} {ls r : List Value} {T : pmT} {v : pmV} {P : Option Value → pmT → pmV → Prop} {pc : Nat} {a : Nat} {x0 : Int32} {x1 : Int32} (hM : M.1 = 11) (hd : decode M.2.2.1 pc = .ok (.invokevirtual 243, 3)) (hkd : pmKind T a = 6) (hn : pmNum r ≤ 8) (k : EvP X d MX6_put 0 [.ref a, .int x0, .int x1] [] T v (fun o T' v' => EvP X (d + 1) M (pc + 3) ls (pmPush o r) T' v' P)) : EvP X (d + 1) M pc ls (.int x1 :: .int x0 :: .ref a :: r) T v P :=
  ev_callV (as := [.int x0, .int x1]) pc hd (by rw [hM]; exact rfl) hkd rfl pl_62 rfl hn (Nat.le_of_ble_eq_true rfl) rfl k
theorem cv_11_249_6 {X : pmX} {d : Nat} {M : pmM} {ls r : List Value} {T : pmT} {v : pmV} {P : Option Value → pmT → pmV → Prop} {pc : Nat} {a : Nat} {x0 : Int32} {x1 : Int32} (hM : M.1 = 11) (hd : decode M.2.2.1 pc = .ok (.invokevirtual 249, 3)) (hkd : pmKind T a = 6) (hn : pmNum r ≤ 8) (k : EvP X d MX6_hasAll 0 [.ref a, .int x0, .int x1] [] T v (fun o T' v' => EvP X (d + 1) M (pc + 3) ls (pmPush o r) T' v' P)) : EvP X (d + 1) M pc ls (.int x1 :: .int x0 :: .ref a :: r) T v P :=
  ev_callV (as := [.int x0, .int x1]) pc hd (by rw [hM]; exact rfl) hkd rfl pl_60 rfl hn (Nat.le_of_ble_eq_true rfl) rfl k
theorem cv_11_262_11 {X : pmX} {d : Nat} {M : pmM} {ls r : List Value} {T : pmT} {v : pmV} {P : Option Value → pmT → pmV → Prop} {pc : Nat} {a : Nat} {x0 : Int32} {x1 : Int32} {x2 : Int32} (hM : M.1 = 11) (hd : decode M.2.2.1 pc = .ok (.invokevirtual 262, 3)) (hkd : pmKind T a = 11) (hn : pmNum r ≤ 8) (k : EvP X d MX11_lane 0 [.ref a, .int x0, .int x1, .int x2] [] T v (fun o T' v' => EvP X (d + 1) M (pc + 3) ls (pmPush o r) T' v' P)) : EvP X (d + 1) M pc ls (.int x2 :: .int x1 :: .int x0 :: .ref a :: r) T v P :=
  ev_callV (as := [.int x0, .int x1, .int x2]) pc hd (by rw [hM]; exact rfl) hkd rfl pl_77 rfl hn (Nat.le_of_ble_eq_true rfl) rfl k
theorem cv_11_287_1 {X : pmX} {d : Nat} {M : pmM} {ls r : List Value} {T : pmT} {v : pmV} {P : Option Value → pmT → pmV → Prop} {pc : Nat} {a : Nat} {x0 : Nat} {x1 : Int32} {x2 : Nat} {x3 : Nat} (hM : M.1 = 11) (hd : decode M.2.2.1 pc = .ok (.invokevirtual 287, 3)) (hkd : pmKind T a = 1) (hn : pmNum r ≤ 8) (k : EvP X d MX1_ready 0 [.ref a, .ref x0, .int x1, .ref x2, .ref x3] [] T v (fun o T' v' => EvP X (d + 1) M (pc + 3) ls (pmPush o r) T' v' P)) : EvP X (d + 1) M pc ls (.ref x3 :: .ref x2 :: .int x1 :: .ref x0 :: .ref a :: r) T v P :=
  ev_callV (as := [.ref x0, .int x1, .ref x2, .ref x3]) pc hd (by rw [hM]; exact rfl) hkd rfl pl_3 rfl hn (Nat.le_of_ble_eq_true rfl) rfl k
theorem cv_12_7_12 {X : pmX} {d : Nat} {M : pmM} {ls r : List Value} {T : pmT} {v : pmV} {P : Option Value → pmT → pmV → Prop} {pc : Nat} {a : Nat} {x0 : Int32} {x1 : Int32} {x2 : Int32} (hM : M.1 = 12) (hd : decode M.2.2.1 pc = .ok (.invokevirtual 7, 3)) (hkd : pmKind T a = 12) (hn : pmNum r ≤ 8) (k : EvP X d MX12_in 0 [.ref a, .int x0, .int x1, .int x2] [] T v (fun o T' v' => EvP X (d + 1) M (pc + 3) ls (pmPush o r) T' v' P)) : EvP X (d + 1) M pc ls (.int x2 :: .int x1 :: .int x0 :: .ref a :: r) T v P :=
  ev_callV (as := [.int x0, .int x1, .int x2]) pc hd (by rw [hM]; exact rfl) hkd rfl pl_114 rfl hn (Nat.le_of_ble_eq_true rfl) rfl k
theorem cv_12_21_12 {X : pmX} {d : Nat} {M : pmM} {ls r : List Value} {T : pmT} {v : pmV} {P : Option Value → pmT → pmV → Prop} {pc : Nat} {a : Nat} {x0 : Int32} {x1 : Int32} {x2 : Int32} (hM : M.1 = 12) (hd : decode M.2.2.1 pc = .ok (.invokevirtual 21, 3)) (hkd : pmKind T a = 12) (hn : pmNum r ≤ 8) (k : EvP X d MX12_isNew 0 [.ref a, .int x0, .int x1, .int x2] [] T v (fun o T' v' => EvP X (d + 1) M (pc + 3) ls (pmPush o r) T' v' P)) : EvP X (d + 1) M pc ls (.int x2 :: .int x1 :: .int x0 :: .ref a :: r) T v P :=
  ev_callV (as := [.int x0, .int x1, .int x2]) pc hd (by rw [hM]; exact rfl) hkd rfl pl_118 rfl hn (Nat.le_of_ble_eq_true rfl) rfl k
theorem cv_12_24_12 {X : pmX} {d : Nat} {M : pmM} {ls r : List Value} {T : pmT} {v : pmV} {P : Option Value → pmT → pmV → Prop} {pc : Nat} {a : Nat} {x0 : Int32} {x1 : Int32} {x2 : Int32} (hM : M.1 = 12) (hd : decode M.2.2.1 pc = .ok (.invokevirtual 24, 3)) (hkd : pmKind T a = 12) (hn : pmNum r ≤ 8) (k : EvP X d MX12_comesLane 0 [.ref a, .int x0, .int x1, .int x2] [] T v (fun o T' v' => EvP X (d + 1) M (pc + 3) ls (pmPush o r) T' v' P)) : EvP X (d + 1) M pc ls (.int x2 :: .int x1 :: .int x0 :: .ref a :: r) T v P :=
  ev_callV (as := [.int x0, .int x1, .int x2]) pc hd (by rw [hM]; exact rfl) hkd rfl pl_119 rfl hn (Nat.le_of_ble_eq_true rfl) rfl k
theorem cv_12_37_12 {X : pmX} {d : Nat} {M : pmM} {ls r : List Value} {T : pmT} {v : pmV} {P : Option Value → pmT → pmV → Prop} {pc : Nat} {a : Nat} {x0 : Int32} (hM : M.1 = 12) (hd : decode M.2.2.1 pc = .ok (.invokevirtual 37, 3)) (hkd : pmKind T a = 12) (hn : pmNum r ≤ 8) (k : EvP X d MX12_isSheet 0 [.ref a, .int x0] [] T v (fun o T' v' => EvP X (d + 1) M (pc + 3) ls (pmPush o r) T' v' P)) : EvP X (d + 1) M pc ls (.int x0 :: .ref a :: r) T v P :=
  ev_callV (as := [.int x0]) pc hd (by rw [hM]; exact rfl) hkd rfl pl_175 rfl hn (Nat.le_of_ble_eq_true rfl) rfl k
theorem cv_12_53_12 {X : pmX} {d : Nat} {M : pmM} {ls r : List Value} {T : pmT} {v : pmV} {P : Option Value → pmT → pmV → Prop} {pc : Nat} {a : Nat} {x0 : Int32} (hM : M.1 = 12) (hd : decode M.2.2.1 pc = .ok (.invokevirtual 53, 3)) (hkd : pmKind T a = 12) (hn : pmNum r ≤ 8) (k : EvP X d MX12_isLane 0 [.ref a, .int x0] [] T v (fun o T' v' => EvP X (d + 1) M (pc + 3) ls (pmPush o r) T' v' P)) : EvP X (d + 1) M pc ls (.int x0 :: .ref a :: r) T v P :=
  ev_callV (as := [.int x0]) pc hd (by rw [hM]; exact rfl) hkd rfl pl_116 rfl hn (Nat.le_of_ble_eq_true rfl) rfl k
theorem cv_12_56_12 {X : pmX} {d : Nat} {M : pmM} {ls r : List Value} {T : pmT} {v : pmV} {P : Option Value → pmT → pmV → Prop} {pc : Nat} {a : Nat} {x0 : Int32} (hM : M.1 = 12) (hd : decode M.2.2.1 pc = .ok (.invokevirtual 56, 3)) (hkd : pmKind T a = 12) (hn : pmNum r ≤ 8) (k : EvP X d MX12_isMinute 0 [.ref a, .int x0] [] T v (fun o T' v' => EvP X (d + 1) M (pc + 3) ls (pmPush o r) T' v' P)) : EvP X (d + 1) M pc ls (.int x0 :: .ref a :: r) T v P :=
  ev_callV (as := [.int x0]) pc hd (by rw [hM]; exact rfl) hkd rfl pl_117 rfl hn (Nat.le_of_ble_eq_true rfl) rfl k
theorem cv_12_65_12 {X : pmX} {d : Nat} {M : pmM} {ls r : List Value} {T : pmT} {v : pmV} {P : Option Value → pmT → pmV → Prop} {pc : Nat} {a : Nat} {x0 : Int32} (hM : M.1 = 12) (hd : decode M.2.2.1 pc = .ok (.invokevirtual 65, 3)) (hkd : pmKind T a = 12) (hn : pmNum r ≤ 8) (k : EvP X d MX12_restsOf 0 [.ref a, .int x0] [] T v (fun o T' v' => EvP X (d + 1) M (pc + 3) ls (pmPush o r) T' v' P)) : EvP X (d + 1) M pc ls (.int x0 :: .ref a :: r) T v P :=
  ev_callV (as := [.int x0]) pc hd (by rw [hM]; exact rfl) hkd rfl pl_126 rfl hn (Nat.le_of_ble_eq_true rfl) rfl k
theorem cv_12_69_12 {X : pmX} {d : Nat} {M : pmM} {ls r : List Value} {T : pmT} {v : pmV} {P : Option Value → pmT → pmV → Prop} {pc : Nat} {a : Nat} {x0 : Int32} {x1 : Int32} (hM : M.1 = 12) (hd : decode M.2.2.1 pc = .ok (.invokevirtual 69, 3)) (hkd : pmKind T a = 12) (hn : pmNum r ≤ 8) (k : EvP X d MX12_mayTurn 0 [.ref a, .int x0, .int x1] [] T v (fun o T' v' => EvP X (d + 1) M (pc + 3) ls (pmPush o r) T' v' P)) : EvP X (d + 1) M pc ls (.int x1 :: .int x0 :: .ref a :: r) T v P :=
  ev_callV (as := [.int x0, .int x1]) pc hd (by rw [hM]; exact rfl) hkd rfl pl_125 rfl hn (Nat.le_of_ble_eq_true rfl) rfl k
theorem cv_12_73_12 {X : pmX} {d : Nat} {M : pmM} {ls r : List Value} {T : pmT} {v : pmV} {P : Option Value → pmT → pmV → Prop} {pc : Nat} {a : Nat} {x0 : Int32} {x1 : Int32} (hM : M.1 = 12) (hd : decode M.2.2.1 pc = .ok (.invokevirtual 73, 3)) (hkd : pmKind T a = 12) (hn : pmNum r ≤ 8) (k : EvP X d MX12_carries 0 [.ref a, .int x0, .int x1] [] T v (fun o T' v' => EvP X (d + 1) M (pc + 3) ls (pmPush o r) T' v' P)) : EvP X (d + 1) M pc ls (.int x1 :: .int x0 :: .ref a :: r) T v P :=
  ev_callV (as := [.int x0, .int x1]) pc hd (by rw [hM]; exact rfl) hkd rfl pl_124 rfl hn (Nat.le_of_ble_eq_true rfl) rfl k
theorem cv_12_205_12 {X : pmX} {d : Nat} {M : pmM} {ls r : List Value} {T : pmT} {v : pmV} {P : Option Value → pmT → pmV → Prop} {pc : Nat} {a : Nat} {x0 : Int32} {x1 : Int32} (hM : M.1 = 12) (hd : decode M.2.2.1 pc = .ok (.invokevirtual 205, 3)) (hkd : pmKind T a = 12) (hn : pmNum r ≤ 8) (k : EvP X d MX12_put 0 [.ref a, .int x0, .int x1] [] T v (fun o T' v' => EvP X (d + 1) M (pc + 3) ls (pmPush o r) T' v' P)) : EvP X (d + 1) M pc ls (.int x1 :: .int x0 :: .ref a :: r) T v P :=
  ev_callV (as := [.int x0, .int x1]) pc hd (by rw [hM]; exact rfl) hkd rfl pl_138 rfl hn (Nat.le_of_ble_eq_true rfl) rfl k
theorem cv_12_211_12 {X : pmX} {d : Nat} {M : pmM} {ls r : List Value} {T : pmT} {v : pmV} {P : Option Value → pmT → pmV → Prop} {pc : Nat} {a : Nat} {x0 : Int32} (hM : M.1 = 12) (hd : decode M.2.2.1 pc = .ok (.invokevirtual 211, 3)) (hkd : pmKind T a = 12) (hn : pmNum r ≤ 8) (k : EvP X d MX12_byteAt 0 [.ref a, .int x0] [] T v (fun o T' v' => EvP X (d + 1) M (pc + 3) ls (pmPush o r) T' v' P)) : EvP X (d + 1) M pc ls (.int x0 :: .ref a :: r) T v P :=
  ev_callV (as := [.int x0]) pc hd (by rw [hM]; exact rfl) hkd rfl pl_130 rfl hn (Nat.le_of_ble_eq_true rfl) rfl k
theorem cv_12_214_12 {X : pmX} {d : Nat} {M : pmM} {ls r : List Value} {T : pmT} {v : pmV} {P : Option Value → pmT → pmV → Prop} {pc : Nat} {a : Nat} {x0 : Int32} (hM : M.1 = 12) (hd : decode M.2.2.1 pc = .ok (.invokevirtual 214, 3)) (hkd : pmKind T a = 12) (hn : pmNum r ≤ 8) (k : EvP X d MX12_isDigit 0 [.ref a, .int x0] [] T v (fun o T' v' => EvP X (d + 1) M (pc + 3) ls (pmPush o r) T' v' P)) : EvP X (d + 1) M pc ls (.int x0 :: .ref a :: r) T v P :=
  ev_callV (as := [.int x0]) pc hd (by rw [hM]; exact rfl) hkd rfl pl_132 rfl hn (Nat.le_of_ble_eq_true rfl) rfl k
theorem cv_12_217_12 {X : pmX} {d : Nat} {M : pmM} {ls r : List Value} {T : pmT} {v : pmV} {P : Option Value → pmT → pmV → Prop} {pc : Nat} {a : Nat} {x0 : Int32} (hM : M.1 = 12) (hd : decode M.2.2.1 pc = .ok (.invokevirtual 217, 3)) (hkd : pmKind T a = 12) (hn : pmNum r ≤ 8) (k : EvP X d MX12_isLetter 0 [.ref a, .int x0] [] T v (fun o T' v' => EvP X (d + 1) M (pc + 3) ls (pmPush o r) T' v' P)) : EvP X (d + 1) M pc ls (.int x0 :: .ref a :: r) T v P :=
  ev_callV (as := [.int x0]) pc hd (by rw [hM]; exact rfl) hkd rfl pl_131 rfl hn (Nat.le_of_ble_eq_true rfl) rfl k
theorem cv_12_220_12 {X : pmX} {d : Nat} {M : pmM} {ls r : List Value} {T : pmT} {v : pmV} {P : Option Value → pmT → pmV → Prop} {pc : Nat} {a : Nat} {x0 : Int32} (hM : M.1 = 12) (hd : decode M.2.2.1 pc = .ok (.invokevirtual 220, 3)) (hkd : pmKind T a = 12) (hn : pmNum r ≤ 8) (k : EvP X d MX12_nameOf 0 [.ref a, .int x0] [] T v (fun o T' v' => EvP X (d + 1) M (pc + 3) ls (pmPush o r) T' v' P)) : EvP X (d + 1) M pc ls (.int x0 :: .ref a :: r) T v P :=
  ev_callV (as := [.int x0]) pc hd (by rw [hM]; exact rfl) hkd rfl pl_137 rfl hn (Nat.le_of_ble_eq_true rfl) rfl k
theorem cv_12_223_12 {X : pmX} {d : Nat} {M : pmM} {ls r : List Value} {T : pmT} {v : pmV} {P : Option Value → pmT → pmV → Prop} {pc : Nat} {a : Nat} {x0 : Int32} (hM : M.1 = 12) (hd : decode M.2.2.1 pc = .ok (.invokevirtual 223, 3)) (hkd : pmKind T a = 12) (hn : pmNum r ≤ 8) (k : EvP X d MX12_isKey 0 [.ref a, .int x0] [] T v (fun o T' v' => EvP X (d + 1) M (pc + 3) ls (pmPush o r) T' v' P)) : EvP X (d + 1) M pc ls (.int x0 :: .ref a :: r) T v P :=
  ev_callV (as := [.int x0]) pc hd (by rw [hM]; exact rfl) hkd rfl pl_136 rfl hn (Nat.le_of_ble_eq_true rfl) rfl k
theorem cv_12_226_12 {X : pmX} {d : Nat} {M : pmM} {ls r : List Value} {T : pmT} {v : pmV} {P : Option Value → pmT → pmV → Prop} {pc : Nat} {a : Nat}  (hM : M.1 = 12) (hd : decode M.2.2.1 pc = .ok (.invokevirtual 226, 3)) (hkd : pmKind T a = 12) (hn : pmNum r ≤ 8) (k : EvP X d MX12_look 0 [.ref a, pmJ] [] T v (fun o T' v' => EvP X (d + 1) M (pc + 3) ls (pmPush o r) T' v' P)) : EvP X (d + 1) M pc ls (.ref a :: r) T v P :=
  ev_callV (as := []) pc hd (by rw [hM]; exact rfl) hkd rfl pl_133 rfl hn (Nat.le_of_ble_eq_true rfl) rfl k
theorem cv_12_237_12 {X : pmX} {d : Nat} {M : pmM} {ls r : List Value} {T : pmT} {v : pmV} {P : Option Value → pmT → pmV → Prop} {pc : Nat} {a : Nat}  (hM : M.1 = 12) (hd : decode M.2.2.1 pc = .ok (.invokevirtual 237, 3)) (hkd : pmKind T a = 12) (hn : pmNum r ≤ 8) (k : EvP X d MX12_top 0 [.ref a] [] T v (fun o T' v' => EvP X (d + 1) M (pc + 3) ls (pmPush o r) T' v' P)) : EvP X (d + 1) M pc ls (.ref a :: r) T v P :=
  ev_callV (as := []) pc hd (by rw [hM]; exact rfl) hkd rfl pl_139 rfl hn (Nat.le_of_ble_eq_true rfl) rfl k
theorem cv_12_241_12 {X : pmX} {d : Nat} {M : pmM} {ls r : List Value} {T : pmT} {v : pmV} {P : Option Value → pmT → pmV → Prop} {pc : Nat} {a : Nat} {x0 : Int32} (hM : M.1 = 12) (hd : decode M.2.2.1 pc = .ok (.invokevirtual 241, 3)) (hkd : pmKind T a = 12) (hn : pmNum r ≤ 8) (k : EvP X d MX12_strength 0 [.ref a, .int x0] [] T v (fun o T' v' => EvP X (d + 1) M (pc + 3) ls (pmPush o r) T' v' P)) : EvP X (d + 1) M pc ls (.int x0 :: .ref a :: r) T v P :=
  ev_callV (as := [.int x0]) pc hd (by rw [hM]; exact rfl) hkd rfl pl_141 rfl hn (Nat.le_of_ble_eq_true rfl) rfl k
theorem cv_12_244_12 {X : pmX} {d : Nat} {M : pmM} {ls r : List Value} {T : pmT} {v : pmV} {P : Option Value → pmT → pmV → Prop} {pc : Nat} {a : Nat} {x0 : Int32} (hM : M.1 = 12) (hd : decode M.2.2.1 pc = .ok (.invokevirtual 244, 3)) (hkd : pmKind T a = 12) (hn : pmNum r ≤ 8) (k : EvP X d MX12_pushSign 0 [.ref a, .int x0] [] T v (fun o T' v' => EvP X (d + 1) M (pc + 3) ls (pmPush o r) T' v' P)) : EvP X (d + 1) M pc ls (.int x0 :: .ref a :: r) T v P :=
  ev_callV (as := [.int x0]) pc hd (by rw [hM]; exact rfl) hkd rfl pl_140 rfl hn (Nat.le_of_ble_eq_true rfl) rfl k
theorem cv_12_248_12 {X : pmX} {d : Nat} {M : pmM} {ls r : List Value} {T : pmT} {v : pmV} {P : Option Value → pmT → pmV → Prop} {pc : Nat} {a : Nat} {x0 : Int32} (hM : M.1 = 12) (hd : decode M.2.2.1 pc = .ok (.invokevirtual 248, 3)) (hkd : pmKind T a = 12) (hn : pmNum r ≤ 8) (k : EvP X d MX12_settle 0 [.ref a, .int x0, pmJ] [] T v (fun o T' v' => EvP X (d + 1) M (pc + 3) ls (pmPush o r) T' v' P)) : EvP X (d + 1) M pc ls (.int x0 :: .ref a :: r) T v P :=
  ev_callV (as := [.int x0]) pc hd (by rw [hM]; exact rfl) hkd rfl pl_142 rfl hn (Nat.le_of_ble_eq_true rfl) rfl k
theorem cv_12_251_12 {X : pmX} {d : Nat} {M : pmM} {ls r : List Value} {T : pmT} {v : pmV} {P : Option Value → pmT → pmV → Prop} {pc : Nat} {a : Nat} {x0 : Int32} (hM : M.1 = 12) (hd : decode M.2.2.1 pc = .ok (.invokevirtual 251, 3)) (hkd : pmKind T a = 12) (hn : pmNum r ≤ 8) (k : EvP X d MX12_opens 0 [.ref a, .int x0] [] T v (fun o T' v' => EvP X (d + 1) M (pc + 3) ls (pmPush o r) T' v' P)) : EvP X (d + 1) M pc ls (.int x0 :: .ref a :: r) T v P :=
  ev_callV (as := [.int x0]) pc hd (by rw [hM]; exact rfl) hkd rfl pl_143 rfl hn (Nat.le_of_ble_eq_true rfl) rfl k
theorem cv_12_254_12 {X : pmX} {d : Nat} {M : pmM} {ls r : List Value} {T : pmT} {v : pmV} {P : Option Value → pmT → pmV → Prop} {pc : Nat} {a : Nat} {x0 : Int32} (hM : M.1 = 12) (hd : decode M.2.2.1 pc = .ok (.invokevirtual 254, 3)) (hkd : pmKind T a = 12) (hn : pmNum r ≤ 8) (k : EvP X d MX12_isWord 0 [.ref a, .int x0] [] T v (fun o T' v' => EvP X (d + 1) M (pc + 3) ls (pmPush o r) T' v' P)) : EvP X (d + 1) M pc ls (.int x0 :: .ref a :: r) T v P :=
  ev_callV (as := [.int x0]) pc hd (by rw [hM]; exact rfl) hkd rfl pl_135 rfl hn (Nat.le_of_ble_eq_true rfl) rfl k
theorem cv_12_257_12 {X : pmX} {d : Nat} {M : pmM} {ls r : List Value} {T : pmT} {v : pmV} {P : Option Value → pmT → pmV → Prop} {pc : Nat} {a : Nat} {x0 : Int32} (hM : M.1 = 12) (hd : decode M.2.2.1 pc = .ok (.invokevirtual 257, 3)) (hkd : pmKind T a = 12) (hn : pmNum r ≤ 8) (k : EvP X d MX12_takesOne 0 [.ref a, .int x0] [] T v (fun o T' v' => EvP X (d + 1) M (pc + 3) ls (pmPush o r) T' v' P)) : EvP X (d + 1) M pc ls (.int x0 :: .ref a :: r) T v P :=
  ev_callV (as := [.int x0]) pc hd (by rw [hM]; exact rfl) hkd rfl pl_144 rfl hn (Nat.le_of_ble_eq_true rfl) rfl k
theorem cv_12_261_12 {X : pmX} {d : Nat} {M : pmM} {ls r : List Value} {T : pmT} {v : pmV} {P : Option Value → pmT → pmV → Prop} {pc : Nat} {a : Nat}  (hM : M.1 = 12) (hd : decode M.2.2.1 pc = .ok (.invokevirtual 261, 3)) (hkd : pmKind T a = 12) (hn : pmNum r ≤ 8) (k : EvP X d MX12_takesSign 0 [.ref a, pmJ] [] T v (fun o T' v' => EvP X (d + 1) M (pc + 3) ls (pmPush o r) T' v' P)) : EvP X (d + 1) M pc ls (.ref a :: r) T v P :=
  ev_callV (as := []) pc hd (by rw [hM]; exact rfl) hkd rfl pl_145 rfl hn (Nat.le_of_ble_eq_true rfl) rfl k
theorem cv_12_264_12 {X : pmX} {d : Nat} {M : pmM} {ls r : List Value} {T : pmT} {v : pmV} {P : Option Value → pmT → pmV → Prop} {pc : Nat} {a : Nat}  (hM : M.1 = 12) (hd : decode M.2.2.1 pc = .ok (.invokevirtual 264, 3)) (hkd : pmKind T a = 12) (hn : pmNum r ≤ 8) (k : EvP X d MX12_goOn 0 [.ref a] [] T v (fun o T' v' => EvP X (d + 1) M (pc + 3) ls (pmPush o r) T' v' P)) : EvP X (d + 1) M pc ls (.ref a :: r) T v P :=
  ev_callV (as := []) pc hd (by rw [hM]; exact rfl) hkd rfl pl_134 rfl hn (Nat.le_of_ble_eq_true rfl) rfl k
theorem cv_12_267_12 {X : pmX} {d : Nat} {M : pmM} {ls r : List Value} {T : pmT} {v : pmV} {P : Option Value → pmT → pmV → Prop} {pc : Nat} {a : Nat} {x0 : Int32} (hM : M.1 = 12) (hd : decode M.2.2.1 pc = .ok (.invokevirtual 267, 3)) (hkd : pmKind T a = 12) (hn : pmNum r ≤ 8) (k : EvP X d MX12_takesE 0 [.ref a, .int x0, pmJ, pmJ, pmJ, pmJ, pmJ, pmJ] [] T v (fun o T' v' => EvP X (d + 1) M (pc + 3) ls (pmPush o r) T' v' P)) : EvP X (d + 1) M pc ls (.int x0 :: .ref a :: r) T v P :=
  ev_callV (as := [.int x0]) pc hd (by rw [hM]; exact rfl) hkd rfl pl_146 rfl hn (Nat.le_of_ble_eq_true rfl) rfl k
theorem cv_12_270_12 {X : pmX} {d : Nat} {M : pmM} {ls r : List Value} {T : pmT} {v : pmV} {P : Option Value → pmT → pmV → Prop} {pc : Nat} {a : Nat} {x0 : Int32} {x1 : Int32} {x2 : Int32} (hM : M.1 = 12) (hd : decode M.2.2.1 pc = .ok (.invokevirtual 270, 3)) (hkd : pmKind T a = 12) (hn : pmNum r ≤ 8) (k : EvP X d MX12_takesPart 0 [.ref a, .int x0, .int x1, .int x2, pmJ] [] T v (fun o T' v' => EvP X (d + 1) M (pc + 3) ls (pmPush o r) T' v' P)) : EvP X (d + 1) M pc ls (.int x2 :: .int x1 :: .int x0 :: .ref a :: r) T v P :=
  ev_callV (as := [.int x0, .int x1, .int x2]) pc hd (by rw [hM]; exact rfl) hkd rfl pl_147 rfl hn (Nat.le_of_ble_eq_true rfl) rfl k
theorem cv_12_273_12 {X : pmX} {d : Nat} {M : pmM} {ls r : List Value} {T : pmT} {v : pmV} {P : Option Value → pmT → pmV → Prop} {pc : Nat} {a : Nat} {x0 : Int32} {x1 : Int32} {x2 : Int32} (hM : M.1 = 12) (hd : decode M.2.2.1 pc = .ok (.invokevirtual 273, 3)) (hkd : pmKind T a = 12) (hn : pmNum r ≤ 8) (k : EvP X d MX12_done 0 [.ref a, .int x0, .int x1, .int x2] [] T v (fun o T' v' => EvP X (d + 1) M (pc + 3) ls (pmPush o r) T' v' P)) : EvP X (d + 1) M pc ls (.int x2 :: .int x1 :: .int x0 :: .ref a :: r) T v P :=
  ev_callV (as := [.int x0, .int x1, .int x2]) pc hd (by rw [hM]; exact rfl) hkd rfl pl_150 rfl hn (Nat.le_of_ble_eq_true rfl) rfl k
theorem cv_12_277_12 {X : pmX} {d : Nat} {M : pmM} {ls r : List Value} {T : pmT} {v : pmV} {P : Option Value → pmT → pmV → Prop} {pc : Nat} {a : Nat} {x0 : Int32} {x1 : Int32} {x2 : Int32} (hM : M.1 = 12) (hd : decode M.2.2.1 pc = .ok (.invokevirtual 277, 3)) (hkd : pmKind T a = 12) (hn : pmNum r ≤ 8) (k : EvP X d MX12_tellsRule 0 [.ref a, .int x0, .int x1, .int x2, pmJ, pmJ, pmJ, pmJ] [] T v (fun o T' v' => EvP X (d + 1) M (pc + 3) ls (pmPush o r) T' v' P)) : EvP X (d + 1) M pc ls (.int x2 :: .int x1 :: .int x0 :: .ref a :: r) T v P :=
  ev_callV (as := [.int x0, .int x1, .int x2]) pc hd (by rw [hM]; exact rfl) hkd rfl pl_151 rfl hn (Nat.le_of_ble_eq_true rfl) rfl k
theorem cv_12_280_12 {X : pmX} {d : Nat} {M : pmM} {ls r : List Value} {T : pmT} {v : pmV} {P : Option Value → pmT → pmV → Prop} {pc : Nat} {a : Nat} {x0 : Int32} {x1 : Int32} (hM : M.1 = 12) (hd : decode M.2.2.1 pc = .ok (.invokevirtual 280, 3)) (hkd : pmKind T a = 12) (hn : pmNum r ≤ 8) (k : EvP X d MX12_min 0 [.ref a, .int x0, .int x1] [] T v (fun o T' v' => EvP X (d + 1) M (pc + 3) ls (pmPush o r) T' v' P)) : EvP X (d + 1) M pc ls (.int x1 :: .int x0 :: .ref a :: r) T v P :=
  ev_callV (as := [.int x0, .int x1]) pc hd (by rw [hM]; exact rfl) hkd rfl pl_115 rfl hn (Nat.le_of_ble_eq_true rfl) rfl k
theorem cv_12_283_12 {X : pmX} {d : Nat} {M : pmM} {ls r : List Value} {T : pmT} {v : pmV} {P : Option Value → pmT → pmV → Prop} {pc : Nat} {a : Nat} {x0 : Int32} {x1 : Int32} (hM : M.1 = 12) (hd : decode M.2.2.1 pc = .ok (.invokevirtual 283, 3)) (hkd : pmKind T a = 12) (hn : pmNum r ≤ 8) (k : EvP X d MX12_lastOf 0 [.ref a, .int x0, .int x1, pmJ, pmJ, pmJ] [] T v (fun o T' v' => EvP X (d + 1) M (pc + 3) ls (pmPush o r) T' v' P)) : EvP X (d + 1) M pc ls (.int x1 :: .int x0 :: .ref a :: r) T v P :=
  ev_callV (as := [.int x0, .int x1]) pc hd (by rw [hM]; exact rfl) hkd rfl pl_153 rfl hn (Nat.le_of_ble_eq_true rfl) rfl k
theorem cv_12_286_12 {X : pmX} {d : Nat} {M : pmM} {ls r : List Value} {T : pmT} {v : pmV} {P : Option Value → pmT → pmV → Prop} {pc : Nat} {a : Nat} {x0 : Int32} (hM : M.1 = 12) (hd : decode M.2.2.1 pc = .ok (.invokevirtual 286, 3)) (hkd : pmKind T a = 12) (hn : pmNum r ≤ 8) (k : EvP X d MX12_byRule 0 [.ref a, .int x0, pmJ, pmJ, pmJ] [] T v (fun o T' v' => EvP X (d + 1) M (pc + 3) ls (pmPush o r) T' v' P)) : EvP X (d + 1) M pc ls (.int x0 :: .ref a :: r) T v P :=
  ev_callV (as := [.int x0]) pc hd (by rw [hM]; exact rfl) hkd rfl pl_154 rfl hn (Nat.le_of_ble_eq_true rfl) rfl k
theorem cv_12_289_12 {X : pmX} {d : Nat} {M : pmM} {ls r : List Value} {T : pmT} {v : pmV} {P : Option Value → pmT → pmV → Prop} {pc : Nat} {a : Nat} {x0 : Int32} {x1 : Int32} {x2 : Int32} (hM : M.1 = 12) (hd : decode M.2.2.1 pc = .ok (.invokevirtual 289, 3)) (hkd : pmKind T a = 12) (hn : pmNum r ≤ 8) (k : EvP X d MX12_take 0 [.ref a, .int x0, .int x1, .int x2, pmJ, pmJ] [] T v (fun o T' v' => EvP X (d + 1) M (pc + 3) ls (pmPush o r) T' v' P)) : EvP X (d + 1) M pc ls (.int x2 :: .int x1 :: .int x0 :: .ref a :: r) T v P :=
  ev_callV (as := [.int x0, .int x1, .int x2]) pc hd (by rw [hM]; exact rfl) hkd rfl pl_157 rfl hn (Nat.le_of_ble_eq_true rfl) rfl k
theorem cv_12_293_12 {X : pmX} {d : Nat} {M : pmM} {ls r : List Value} {T : pmT} {v : pmV} {P : Option Value → pmT → pmV → Prop} {pc : Nat} {a : Nat} {x0 : Int32} (hM : M.1 = 12) (hd : decode M.2.2.1 pc = .ok (.invokevirtual 293, 3)) (hkd : pmKind T a = 12) (hn : pmNum r ≤ 8) (k : EvP X d MX12_comeAll 0 [.ref a, .int x0, pmJ, pmJ, pmJ, pmJ, pmJ] [] T v (fun o T' v' => EvP X (d + 1) M (pc + 3) ls (pmPush o r) T' v' P)) : EvP X (d + 1) M pc ls (.int x0 :: .ref a :: r) T v P :=
  ev_callV (as := [.int x0]) pc hd (by rw [hM]; exact rfl) hkd rfl pl_152 rfl hn (Nat.le_of_ble_eq_true rfl) rfl k
theorem cv_12_296_12 {X : pmX} {d : Nat} {M : pmM} {ls r : List Value} {T : pmT} {v : pmV} {P : Option Value → pmT → pmV → Prop} {pc : Nat} {a : Nat} {x0 : Int32} {x1 : Int32} (hM : M.1 = 12) (hd : decode M.2.2.1 pc = .ok (.invokevirtual 296, 3)) (hkd : pmKind T a = 12) (hn : pmNum r ≤ 8) (k : EvP X d MX12_toldLane 0 [.ref a, .int x0, .int x1] [] T v (fun o T' v' => EvP X (d + 1) M (pc + 3) ls (pmPush o r) T' v' P)) : EvP X (d + 1) M pc ls (.int x1 :: .int x0 :: .ref a :: r) T v P :=
  ev_callV (as := [.int x0, .int x1]) pc hd (by rw [hM]; exact rfl) hkd rfl pl_155 rfl hn (Nat.le_of_ble_eq_true rfl) rfl k
theorem cv_12_299_12 {X : pmX} {d : Nat} {M : pmM} {ls r : List Value} {T : pmT} {v : pmV} {P : Option Value → pmT → pmV → Prop} {pc : Nat} {a : Nat} {x0 : Int32} {x1 : Int32} (hM : M.1 = 12) (hd : decode M.2.2.1 pc = .ok (.invokevirtual 299, 3)) (hkd : pmKind T a = 12) (hn : pmNum r ≤ 8) (k : EvP X d MX12_turnsNow 0 [.ref a, .int x0, .int x1] [] T v (fun o T' v' => EvP X (d + 1) M (pc + 3) ls (pmPush o r) T' v' P)) : EvP X (d + 1) M pc ls (.int x1 :: .int x0 :: .ref a :: r) T v P :=
  ev_callV (as := [.int x0, .int x1]) pc hd (by rw [hM]; exact rfl) hkd rfl pl_156 rfl hn (Nat.le_of_ble_eq_true rfl) rfl k
theorem cv_12_302_12 {X : pmX} {d : Nat} {M : pmM} {ls r : List Value} {T : pmT} {v : pmV} {P : Option Value → pmT → pmV → Prop} {pc : Nat} {a : Nat} {x0 : Int32} {x1 : Int32} (hM : M.1 = 12) (hd : decode M.2.2.1 pc = .ok (.invokevirtual 302, 3)) (hkd : pmKind T a = 12) (hn : pmNum r ≤ 8) (k : EvP X d MX12_leads 0 [.ref a, .int x0, .int x1] [] T v (fun o T' v' => EvP X (d + 1) M (pc + 3) ls (pmPush o r) T' v' P)) : EvP X (d + 1) M pc ls (.int x1 :: .int x0 :: .ref a :: r) T v P :=
  ev_callV (as := [.int x0, .int x1]) pc hd (by rw [hM]; exact rfl) hkd rfl pl_158 rfl hn (Nat.le_of_ble_eq_true rfl) rfl k
theorem cv_12_305_12 {X : pmX} {d : Nat} {M : pmM} {ls r : List Value} {T : pmT} {v : pmV} {P : Option Value → pmT → pmV → Prop} {pc : Nat} {a : Nat} {x0 : Int32} {x1 : Int32} (hM : M.1 = 12) (hd : decode M.2.2.1 pc = .ok (.invokevirtual 305, 3)) (hkd : pmKind T a = 12) (hn : pmNum r ≤ 8) (k : EvP X d MX12_goMinute 0 [.ref a, .int x0, .int x1, pmJ, pmJ] [] T v (fun o T' v' => EvP X (d + 1) M (pc + 3) ls (pmPush o r) T' v' P)) : EvP X (d + 1) M pc ls (.int x1 :: .int x0 :: .ref a :: r) T v P :=
  ev_callV (as := [.int x0, .int x1]) pc hd (by rw [hM]; exact rfl) hkd rfl pl_159 rfl hn (Nat.le_of_ble_eq_true rfl) rfl k
theorem cv_12_308_12 {X : pmX} {d : Nat} {M : pmM} {ls r : List Value} {T : pmT} {v : pmV} {P : Option Value → pmT → pmV → Prop} {pc : Nat} {a : Nat} {x0 : Int32} {x1 : Int32} (hM : M.1 = 12) (hd : decode M.2.2.1 pc = .ok (.invokevirtual 308, 3)) (hkd : pmKind T a = 12) (hn : pmNum r ≤ 8) (k : EvP X d MX12_isDay 0 [.ref a, .int x0, .int x1] [] T v (fun o T' v' => EvP X (d + 1) M (pc + 3) ls (pmPush o r) T' v' P)) : EvP X (d + 1) M pc ls (.int x1 :: .int x0 :: .ref a :: r) T v P :=
  ev_callV (as := [.int x0, .int x1]) pc hd (by rw [hM]; exact rfl) hkd rfl pl_161 rfl hn (Nat.le_of_ble_eq_true rfl) rfl k
theorem cv_12_311_12 {X : pmX} {d : Nat} {M : pmM} {ls r : List Value} {T : pmT} {v : pmV} {P : Option Value → pmT → pmV → Prop} {pc : Nat} {a : Nat} {x0 : Int32} (hM : M.1 = 12) (hd : decode M.2.2.1 pc = .ok (.invokevirtual 311, 3)) (hkd : pmKind T a = 12) (hn : pmNum r ≤ 8) (k : EvP X d MX12_lacks 0 [.ref a, .int x0] [] T v (fun o T' v' => EvP X (d + 1) M (pc + 3) ls (pmPush o r) T' v' P)) : EvP X (d + 1) M pc ls (.int x0 :: .ref a :: r) T v P :=
  ev_callV (as := [.int x0]) pc hd (by rw [hM]; exact rfl) hkd rfl pl_162 rfl hn (Nat.le_of_ble_eq_true rfl) rfl k
theorem cv_12_316_12 {X : pmX} {d : Nat} {M : pmM} {ls r : List Value} {T : pmT} {v : pmV} {P : Option Value → pmT → pmV → Prop} {pc : Nat} {a : Nat} {x0 : Int32} {x1 : Int32} (hM : M.1 = 12) (hd : decode M.2.2.1 pc = .ok (.invokevirtual 316, 3)) (hkd : pmKind T a = 12) (hn : pmNum r ≤ 8) (k : EvP X d MX12_go 0 [.ref a, .int x0, .int x1, pmJ] [] T v (fun o T' v' => EvP X (d + 1) M (pc + 3) ls (pmPush o r) T' v' P)) : EvP X (d + 1) M pc ls (.int x1 :: .int x0 :: .ref a :: r) T v P :=
  ev_callV (as := [.int x0, .int x1]) pc hd (by rw [hM]; exact rfl) hkd rfl pl_160 rfl hn (Nat.le_of_ble_eq_true rfl) rfl k
theorem cv_12_319_12 {X : pmX} {d : Nat} {M : pmM} {ls r : List Value} {T : pmT} {v : pmV} {P : Option Value → pmT → pmV → Prop} {pc : Nat} {a : Nat} {x0 : Int32} {x1 : Int32} {x2 : Int32} {x3 : Int32} (hM : M.1 = 12) (hd : decode M.2.2.1 pc = .ok (.invokevirtual 319, 3)) (hkd : pmKind T a = 12) (hn : pmNum r ≤ 8) (k : EvP X d MX12_trial 0 [.ref a, .int x0, .int x1, .int x2, .int x3] [] T v (fun o T' v' => EvP X (d + 1) M (pc + 3) ls (pmPush o r) T' v' P)) : EvP X (d + 1) M pc ls (.int x3 :: .int x2 :: .int x1 :: .int x0 :: .ref a :: r) T v P :=
  ev_callV (as := [.int x0, .int x1, .int x2, .int x3]) pc hd (by rw [hM]; exact rfl) hkd rfl pl_165 rfl hn (Nat.le_of_ble_eq_true rfl) rfl k
theorem cv_12_325_12 {X : pmX} {d : Nat} {M : pmM} {ls r : List Value} {T : pmT} {v : pmV} {P : Option Value → pmT → pmV → Prop} {pc : Nat} {a : Nat} {x0 : Int32} (hM : M.1 = 12) (hd : decode M.2.2.1 pc = .ok (.invokevirtual 325, 3)) (hkd : pmKind T a = 12) (hn : pmNum r ≤ 8) (k : EvP X d MX12_allComers 0 [.ref a, .int x0, pmJ, pmJ] [] T v (fun o T' v' => EvP X (d + 1) M (pc + 3) ls (pmPush o r) T' v' P)) : EvP X (d + 1) M pc ls (.int x0 :: .ref a :: r) T v P :=
  ev_callV (as := [.int x0]) pc hd (by rw [hM]; exact rfl) hkd rfl pl_173 rfl hn (Nat.le_of_ble_eq_true rfl) rfl k
theorem cv_20_335_20 {X : pmX} {d : Nat} {M : pmM} {ls r : List Value} {T : pmT} {v : pmV} {P : Option Value → pmT → pmV → Prop} {pc : Nat} {a : Nat}  (hM : M.1 = 20) (hd : decode M.2.2.1 pc = .ok (.invokevirtual 335, 3)) (hkd : pmKind T a = 20) (hn : pmNum r ≤ 8) (k : EvP X d MJ0_coder_7d493 0 [.ref a] [] T v (fun o T' v' => EvP X (d + 1) M (pc + 3) ls (pmPush o r) T' v' P)) : EvP X (d + 1) M pc ls (.ref a :: r) T v P :=
  ev_callV (as := []) pc hd (by rw [hM]; exact rfl) hkd rfl pl_185 rfl hn (Nat.le_of_ble_eq_true rfl) rfl k
theorem cv_20_492_20 {X : pmX} {d : Nat} {M : pmM} {ls r : List Value} {T : pmT} {v : pmV} {P : Option Value → pmT → pmV → Prop} {pc : Nat} {a : Nat}  (hM : M.1 = 20) (hd : decode M.2.2.1 pc = .ok (.invokevirtual 492, 3)) (hkd : pmKind T a = 20) (hn : pmNum r ≤ 8) (k : EvP X d MJ0_isLatin1_aae02 0 [.ref a] [] T v (fun o T' v' => EvP X (d + 1) M (pc + 3) ls (pmPush o r) T' v' P)) : EvP X (d + 1) M pc ls (.ref a :: r) T v P :=
  ev_callV (as := []) pc hd (by rw [hM]; exact rfl) hkd rfl pl_186 rfl hn (Nat.le_of_ble_eq_true rfl) rfl k
theorem cv_20_505_20 {X : pmX} {d : Nat} {M : pmM} {ls r : List Value} {T : pmT} {v : pmV} {P : Option Value → pmT → pmV → Prop} {pc : Nat} {a : Nat}  (hM : M.1 = 20) (hd : decode M.2.2.1 pc = .ok (.invokevirtual 505, 3)) (hkd : pmKind T a = 20) (hn : pmNum r ≤ 8) (k : EvP X d MJ0_length_8abf5 0 [.ref a] [] T v (fun o T' v' => EvP X (d + 1) M (pc + 3) ls (pmPush o r) T' v' P)) : EvP X (d + 1) M pc ls (.ref a :: r) T v P :=
  ev_callV (as := []) pc hd (by rw [hM]; exact rfl) hkd rfl pl_181 rfl hn (Nat.le_of_ble_eq_true rfl) rfl k
theorem cv_20_633_20 {X : pmX} {d : Nat} {M : pmM} {ls r : List Value} {T : pmT} {v : pmV} {P : Option Value → pmT → pmV → Prop} {pc : Nat} {a : Nat} {x0 : Int32} {x1 : Int32} (hM : M.1 = 20) (hd : decode M.2.2.1 pc = .ok (.invokevirtual 633, 3)) (hkd : pmKind T a = 20) (hn : pmNum r ≤ 8) (k : EvP X d MJ0_indexOf_7cf53 0 [.ref a, .int x0, .int x1] [] T v (fun o T' v' => EvP X (d + 1) M (pc + 3) ls (pmPush o r) T' v' P)) : EvP X (d + 1) M pc ls (.int x1 :: .int x0 :: .ref a :: r) T v P :=
  ev_callV (as := [.int x0, .int x1]) pc hd (by rw [hM]; exact rfl) hkd rfl pl_184 rfl hn (Nat.le_of_ble_eq_true rfl) rfl k
theorem cv_40_13_11 {X : pmX} {d : Nat} {M : pmM} {ls r : List Value} {T : pmT} {v : pmV} {P : Option Value → pmT → pmV → Prop} {pc : Nat} {a : Nat} {x0 : Int32} {x1 : Int32} {x2 : Int32} (hM : M.1 = 40) (hd : decode M.2.2.1 pc = .ok (.invokevirtual 13, 3)) (hkd : pmKind T a = 11) (hn : pmNum r ≤ 8) (k : EvP X d MX11_lane 0 [.ref a, .int x0, .int x1, .int x2] [] T v (fun o T' v' => EvP X (d + 1) M (pc + 3) ls (pmPush o r) T' v' P)) : EvP X (d + 1) M pc ls (.int x2 :: .int x1 :: .int x0 :: .ref a :: r) T v P :=
  ev_callV (as := [.int x0, .int x1, .int x2]) pc hd (by rw [hM]; exact rfl) hkd rfl pl_77 rfl hn (Nat.le_of_ble_eq_true rfl) rfl k
theorem cv_40_17_12 {X : pmX} {d : Nat} {M : pmM} {ls r : List Value} {T : pmT} {v : pmV} {P : Option Value → pmT → pmV → Prop} {pc : Nat} {a : Nat} {x0 : Int32} {x1 : Int32} {x2 : Int32} (hM : M.1 = 40) (hd : decode M.2.2.1 pc = .ok (.invokevirtual 17, 3)) (hkd : pmKind T a = 12) (hn : pmNum r ≤ 8) (k : EvP X d MX12_lane 0 [.ref a, .int x0, .int x1, .int x2] [] T v (fun o T' v' => EvP X (d + 1) M (pc + 3) ls (pmPush o r) T' v' P)) : EvP X (d + 1) M pc ls (.int x2 :: .int x1 :: .int x0 :: .ref a :: r) T v P :=
  ev_callV (as := [.int x0, .int x1, .int x2]) pc hd (by rw [hM]; exact rfl) hkd rfl pl_120 rfl hn (Nat.le_of_ble_eq_true rfl) rfl k
theorem cv_40_18_11 {X : pmX} {d : Nat} {M : pmM} {ls r : List Value} {T : pmT} {v : pmV} {P : Option Value → pmT → pmV → Prop} {pc : Nat} {a : Nat} {x0 : Int32} {x1 : Int32} {x2 : Int32} (hM : M.1 = 40) (hd : decode M.2.2.1 pc = .ok (.invokevirtual 18, 3)) (hkd : pmKind T a = 11) (hn : pmNum r ≤ 8) (k : EvP X d MX11_set 0 [.ref a, .int x0, .int x1, .int x2, pmJ, pmJ, pmJ, pmJ] [] T v (fun o T' v' => EvP X (d + 1) M (pc + 3) ls (pmPush o r) T' v' P)) : EvP X (d + 1) M pc ls (.int x2 :: .int x1 :: .int x0 :: .ref a :: r) T v P :=
  ev_callV (as := [.int x0, .int x1, .int x2]) pc hd (by rw [hM]; exact rfl) hkd rfl pl_78 rfl hn (Nat.le_of_ble_eq_true rfl) rfl k
theorem cv_40_21_12 {X : pmX} {d : Nat} {M : pmM} {ls r : List Value} {T : pmT} {v : pmV} {P : Option Value → pmT → pmV → Prop} {pc : Nat} {a : Nat} {x0 : Int32} {x1 : Int32} {x2 : Int32} (hM : M.1 = 40) (hd : decode M.2.2.1 pc = .ok (.invokevirtual 21, 3)) (hkd : pmKind T a = 12) (hn : pmNum r ≤ 8) (k : EvP X d MX12_set 0 [.ref a, .int x0, .int x1, .int x2, pmJ, pmJ] [] T v (fun o T' v' => EvP X (d + 1) M (pc + 3) ls (pmPush o r) T' v' P)) : EvP X (d + 1) M pc ls (.int x2 :: .int x1 :: .int x0 :: .ref a :: r) T v P :=
  ev_callV (as := [.int x0, .int x1, .int x2]) pc hd (by rw [hM]; exact rfl) hkd rfl pl_121 rfl hn (Nat.le_of_ble_eq_true rfl) rfl k
theorem cv_40_22_11 {X : pmX} {d : Nat} {M : pmM} {ls r : List Value} {T : pmT} {v : pmV} {P : Option Value → pmT → pmV → Prop} {pc : Nat} {a : Nat} {x0 : Int32} {x1 : Int32} (hM : M.1 = 40) (hd : decode M.2.2.1 pc = .ok (.invokevirtual 22, 3)) (hkd : pmKind T a = 11) (hn : pmNum r ≤ 8) (k : EvP X d MX11_come 0 [.ref a, .int x0, .int x1, pmJ, pmJ] [] T v (fun o T' v' => EvP X (d + 1) M (pc + 3) ls (pmPush o r) T' v' P)) : EvP X (d + 1) M pc ls (.int x1 :: .int x0 :: .ref a :: r) T v P :=
  ev_callV (as := [.int x0, .int x1]) pc hd (by rw [hM]; exact rfl) hkd rfl pl_79 rfl hn (Nat.le_of_ble_eq_true rfl) rfl k
theorem cv_40_26_12 {X : pmX} {d : Nat} {M : pmM} {ls r : List Value} {T : pmT} {v : pmV} {P : Option Value → pmT → pmV → Prop} {pc : Nat} {a : Nat} {x0 : Int32} {x1 : Int32} (hM : M.1 = 40) (hd : decode M.2.2.1 pc = .ok (.invokevirtual 26, 3)) (hkd : pmKind T a = 12) (hn : pmNum r ≤ 8) (k : EvP X d MX12_come 0 [.ref a, .int x0, .int x1, pmJ] [] T v (fun o T' v' => EvP X (d + 1) M (pc + 3) ls (pmPush o r) T' v' P)) : EvP X (d + 1) M pc ls (.int x1 :: .int x0 :: .ref a :: r) T v P :=
  ev_callV (as := [.int x0, .int x1]) pc hd (by rw [hM]; exact rfl) hkd rfl pl_122 rfl hn (Nat.le_of_ble_eq_true rfl) rfl k
theorem cv_40_27_11 {X : pmX} {d : Nat} {M : pmM} {ls r : List Value} {T : pmT} {v : pmV} {P : Option Value → pmT → pmV → Prop} {pc : Nat} {a : Nat} {x0 : Int32} {x1 : Int32} {x2 : Int32} (hM : M.1 = 40) (hd : decode M.2.2.1 pc = .ok (.invokevirtual 27, 3)) (hkd : pmKind T a = 11) (hn : pmNum r ≤ 8) (k : EvP X d MX11_stop 0 [.ref a, .int x0, .int x1, .int x2] [] T v (fun o T' v' => EvP X (d + 1) M (pc + 3) ls (pmPush o r) T' v' P)) : EvP X (d + 1) M pc ls (.int x2 :: .int x1 :: .int x0 :: .ref a :: r) T v P :=
  ev_callV (as := [.int x0, .int x1, .int x2]) pc hd (by rw [hM]; exact rfl) hkd rfl pl_80 rfl hn (Nat.le_of_ble_eq_true rfl) rfl k
theorem cv_40_30_12 {X : pmX} {d : Nat} {M : pmM} {ls r : List Value} {T : pmT} {v : pmV} {P : Option Value → pmT → pmV → Prop} {pc : Nat} {a : Nat} {x0 : Int32} {x1 : Int32} {x2 : Int32} (hM : M.1 = 40) (hd : decode M.2.2.1 pc = .ok (.invokevirtual 30, 3)) (hkd : pmKind T a = 12) (hn : pmNum r ≤ 8) (k : EvP X d MX12_stop 0 [.ref a, .int x0, .int x1, .int x2] [] T v (fun o T' v' => EvP X (d + 1) M (pc + 3) ls (pmPush o r) T' v' P)) : EvP X (d + 1) M pc ls (.int x2 :: .int x1 :: .int x0 :: .ref a :: r) T v P :=
  ev_callV (as := [.int x0, .int x1, .int x2]) pc hd (by rw [hM]; exact rfl) hkd rfl pl_123 rfl hn (Nat.le_of_ble_eq_true rfl) rfl k
theorem cv_40_31_11 {X : pmX} {d : Nat} {M : pmM} {ls r : List Value} {T : pmT} {v : pmV} {P : Option Value → pmT → pmV → Prop} {pc : Nat} {a : Nat} {x0 : Int32} {x1 : Int32} {x2 : Int32} (hM : M.1 = 40) (hd : decode M.2.2.1 pc = .ok (.invokevirtual 31, 3)) (hkd : pmKind T a = 11) (hn : pmNum r ≤ 8) (k : EvP X d MX11_told 0 [.ref a, .int x0, .int x1, .int x2, pmJ] [] T v (fun o T' v' => EvP X (d + 1) M (pc + 3) ls (pmPush o r) T' v' P)) : EvP X (d + 1) M pc ls (.int x2 :: .int x1 :: .int x0 :: .ref a :: r) T v P :=
  ev_callV (as := [.int x0, .int x1, .int x2]) pc hd (by rw [hM]; exact rfl) hkd rfl pl_81 rfl hn (Nat.le_of_ble_eq_true rfl) rfl k
theorem cv_40_34_12 {X : pmX} {d : Nat} {M : pmM} {ls r : List Value} {T : pmT} {v : pmV} {P : Option Value → pmT → pmV → Prop} {pc : Nat} {a : Nat} {x0 : Int32} {x1 : Int32} {x2 : Int32} (hM : M.1 = 40) (hd : decode M.2.2.1 pc = .ok (.invokevirtual 34, 3)) (hkd : pmKind T a = 12) (hn : pmNum r ≤ 8) (k : EvP X d MX12_told 0 [.ref a, .int x0, .int x1, .int x2] [] T v (fun o T' v' => EvP X (d + 1) M (pc + 3) ls (pmPush o r) T' v' P)) : EvP X (d + 1) M pc ls (.int x2 :: .int x1 :: .int x0 :: .ref a :: r) T v P :=
  ev_callV (as := [.int x0, .int x1, .int x2]) pc hd (by rw [hM]; exact rfl) hkd rfl pl_127 rfl hn (Nat.le_of_ble_eq_true rfl) rfl k
theorem cv_40_37_11 {X : pmX} {d : Nat} {M : pmM} {ls r : List Value} {T : pmT} {v : pmV} {P : Option Value → pmT → pmV → Prop} {pc : Nat} {a : Nat} {x0 : Int32} {x1 : Int64} (hM : M.1 = 40) (hd : decode M.2.2.1 pc = .ok (.invokevirtual 37, 3)) (hkd : pmKind T a = 11) (hn : pmNum r ≤ 8) (k : EvP X d MX11_feed 0 [.ref a, .int x0, .long x1, pmJ, pmJ] [] T v (fun o T' v' => EvP X (d + 1) M (pc + 3) ls (pmPush o r) T' v' P)) : EvP X (d + 1) M pc ls (.long x1 :: .int x0 :: .ref a :: r) T v P :=
  ev_callV (as := [.int x0, .long x1]) pc hd (by rw [hM]; exact rfl) hkd rfl pl_82 rfl hn (Nat.le_of_ble_eq_true rfl) rfl k
theorem cv_40_41_12 {X : pmX} {d : Nat} {M : pmM} {ls r : List Value} {T : pmT} {v : pmV} {P : Option Value → pmT → pmV → Prop} {pc : Nat} {a : Nat} {x0 : Int32} {x1 : Int64} (hM : M.1 = 40) (hd : decode M.2.2.1 pc = .ok (.invokevirtual 41, 3)) (hkd : pmKind T a = 12) (hn : pmNum r ≤ 8) (k : EvP X d MX12_feed 0 [.ref a, .int x0, .long x1, pmJ, pmJ] [] T v (fun o T' v' => EvP X (d + 1) M (pc + 3) ls (pmPush o r) T' v' P)) : EvP X (d + 1) M pc ls (.long x1 :: .int x0 :: .ref a :: r) T v P :=
  ev_callV (as := [.int x0, .long x1]) pc hd (by rw [hM]; exact rfl) hkd rfl pl_129 rfl hn (Nat.le_of_ble_eq_true rfl) rfl k
theorem cv_40_42_11 {X : pmX} {d : Nat} {M : pmM} {ls r : List Value} {T : pmT} {v : pmV} {P : Option Value → pmT → pmV → Prop} {pc : Nat} {a : Nat}  (hM : M.1 = 40) (hd : decode M.2.2.1 pc = .ok (.invokevirtual 42, 3)) (hkd : pmKind T a = 11) (hn : pmNum r ≤ 8) (k : EvP X d MX11_text 0 [.ref a, pmJ] [] T v (fun o T' v' => EvP X (d + 1) M (pc + 3) ls (pmPush o r) T' v' P)) : EvP X (d + 1) M pc ls (.ref a :: r) T v P :=
  ev_callV (as := []) pc hd (by rw [hM]; exact rfl) hkd rfl pl_83 rfl hn (Nat.le_of_ble_eq_true rfl) rfl k
theorem cv_40_46_12 {X : pmX} {d : Nat} {M : pmM} {ls r : List Value} {T : pmT} {v : pmV} {P : Option Value → pmT → pmV → Prop} {pc : Nat} {a : Nat}  (hM : M.1 = 40) (hd : decode M.2.2.1 pc = .ok (.invokevirtual 46, 3)) (hkd : pmKind T a = 12) (hn : pmNum r ≤ 8) (k : EvP X d MX12_text 0 [.ref a, pmJ] [] T v (fun o T' v' => EvP X (d + 1) M (pc + 3) ls (pmPush o r) T' v' P)) : EvP X (d + 1) M pc ls (.ref a :: r) T v P :=
  ev_callV (as := []) pc hd (by rw [hM]; exact rfl) hkd rfl pl_148 rfl hn (Nat.le_of_ble_eq_true rfl) rfl k
theorem cv_40_47_11 {X : pmX} {d : Nat} {M : pmM} {ls r : List Value} {T : pmT} {v : pmV} {P : Option Value → pmT → pmV → Prop} {pc : Nat} {a : Nat} {x0 : Int32} (hM : M.1 = 40) (hd : decode M.2.2.1 pc = .ok (.invokevirtual 47, 3)) (hkd : pmKind T a = 11) (hn : pmNum r ≤ 8) (k : EvP X d MX11_force 0 [.ref a, .int x0, pmJ] [] T v (fun o T' v' => EvP X (d + 1) M (pc + 3) ls (pmPush o r) T' v' P)) : EvP X (d + 1) M pc ls (.int x0 :: .ref a :: r) T v P :=
  ev_callV (as := [.int x0]) pc hd (by rw [hM]; exact rfl) hkd rfl pl_84 rfl hn (Nat.le_of_ble_eq_true rfl) rfl k
theorem cv_40_51_12 {X : pmX} {d : Nat} {M : pmM} {ls r : List Value} {T : pmT} {v : pmV} {P : Option Value → pmT → pmV → Prop} {pc : Nat} {a : Nat} {x0 : Int32} (hM : M.1 = 40) (hd : decode M.2.2.1 pc = .ok (.invokevirtual 51, 3)) (hkd : pmKind T a = 12) (hn : pmNum r ≤ 8) (k : EvP X d MX12_force 0 [.ref a, .int x0, pmJ] [] T v (fun o T' v' => EvP X (d + 1) M (pc + 3) ls (pmPush o r) T' v' P)) : EvP X (d + 1) M pc ls (.int x0 :: .ref a :: r) T v P :=
  ev_callV (as := [.int x0]) pc hd (by rw [hM]; exact rfl) hkd rfl pl_149 rfl hn (Nat.le_of_ble_eq_true rfl) rfl k
theorem cv_40_52_11 {X : pmX} {d : Nat} {M : pmM} {ls r : List Value} {T : pmT} {v : pmV} {P : Option Value → pmT → pmV → Prop} {pc : Nat} {a : Nat} {x0 : Int32} {x1 : Int32} (hM : M.1 = 40) (hd : decode M.2.2.1 pc = .ok (.invokevirtual 52, 3)) (hkd : pmKind T a = 11) (hn : pmNum r ≤ 8) (k : EvP X d MX11_waited 0 [.ref a, .int x0, .int x1] [] T v (fun o T' v' => EvP X (d + 1) M (pc + 3) ls (pmPush o r) T' v' P)) : EvP X (d + 1) M pc ls (.int x1 :: .int x0 :: .ref a :: r) T v P :=
  ev_callV (as := [.int x0, .int x1]) pc hd (by rw [hM]; exact rfl) hkd rfl pl_85 rfl hn (Nat.le_of_ble_eq_true rfl) rfl k
theorem cv_40_56_12 {X : pmX} {d : Nat} {M : pmM} {ls r : List Value} {T : pmT} {v : pmV} {P : Option Value → pmT → pmV → Prop} {pc : Nat} {a : Nat} {x0 : Int32} {x1 : Int32} (hM : M.1 = 40) (hd : decode M.2.2.1 pc = .ok (.invokevirtual 56, 3)) (hkd : pmKind T a = 12) (hn : pmNum r ≤ 8) (k : EvP X d MX12_waited 0 [.ref a, .int x0, .int x1] [] T v (fun o T' v' => EvP X (d + 1) M (pc + 3) ls (pmPush o r) T' v' P)) : EvP X (d + 1) M pc ls (.int x1 :: .int x0 :: .ref a :: r) T v P :=
  ev_callV (as := [.int x0, .int x1]) pc hd (by rw [hM]; exact rfl) hkd rfl pl_163 rfl hn (Nat.le_of_ble_eq_true rfl) rfl k
theorem cv_40_57_11 {X : pmX} {d : Nat} {M : pmM} {ls r : List Value} {T : pmT} {v : pmV} {P : Option Value → pmT → pmV → Prop} {pc : Nat} {a : Nat} {x0 : Int32} {x1 : Int32} {x2 : Int32} (hM : M.1 = 40) (hd : decode M.2.2.1 pc = .ok (.invokevirtual 57, 3)) (hkd : pmKind T a = 11) (hn : pmNum r ≤ 8) (k : EvP X d MX11_day 0 [.ref a, .int x0, .int x1, .int x2] [] T v (fun o T' v' => EvP X (d + 1) M (pc + 3) ls (pmPush o r) T' v' P)) : EvP X (d + 1) M pc ls (.int x2 :: .int x1 :: .int x0 :: .ref a :: r) T v P :=
  ev_callV (as := [.int x0, .int x1, .int x2]) pc hd (by rw [hM]; exact rfl) hkd rfl pl_86 rfl hn (Nat.le_of_ble_eq_true rfl) rfl k
theorem cv_40_60_12 {X : pmX} {d : Nat} {M : pmM} {ls r : List Value} {T : pmT} {v : pmV} {P : Option Value → pmT → pmV → Prop} {pc : Nat} {a : Nat} {x0 : Int32} {x1 : Int32} {x2 : Int32} (hM : M.1 = 40) (hd : decode M.2.2.1 pc = .ok (.invokevirtual 60, 3)) (hkd : pmKind T a = 12) (hn : pmNum r ≤ 8) (k : EvP X d MX12_day 0 [.ref a, .int x0, .int x1, .int x2, pmJ, pmJ] [] T v (fun o T' v' => EvP X (d + 1) M (pc + 3) ls (pmPush o r) T' v' P)) : EvP X (d + 1) M pc ls (.int x2 :: .int x1 :: .int x0 :: .ref a :: r) T v P :=
  ev_callV (as := [.int x0, .int x1, .int x2]) pc hd (by rw [hM]; exact rfl) hkd rfl pl_164 rfl hn (Nat.le_of_ble_eq_true rfl) rfl k
theorem cv_40_61_11 {X : pmX} {d : Nat} {M : pmM} {ls r : List Value} {T : pmT} {v : pmV} {P : Option Value → pmT → pmV → Prop} {pc : Nat} {a : Nat} {x0 : Int32} {x1 : Int32} (hM : M.1 = 40) (hd : decode M.2.2.1 pc = .ok (.invokevirtual 61, 3)) (hkd : pmKind T a = 11) (hn : pmNum r ≤ 8) (k : EvP X d MX11_best 0 [.ref a, .int x0, .int x1, pmJ, pmJ] [] T v (fun o T' v' => EvP X (d + 1) M (pc + 3) ls (pmPush o r) T' v' P)) : EvP X (d + 1) M pc ls (.int x1 :: .int x0 :: .ref a :: r) T v P :=
  ev_callV (as := [.int x0, .int x1]) pc hd (by rw [hM]; exact rfl) hkd rfl pl_87 rfl hn (Nat.le_of_ble_eq_true rfl) rfl k
theorem cv_40_64_12 {X : pmX} {d : Nat} {M : pmM} {ls r : List Value} {T : pmT} {v : pmV} {P : Option Value → pmT → pmV → Prop} {pc : Nat} {a : Nat} {x0 : Int32} {x1 : Int32} (hM : M.1 = 40) (hd : decode M.2.2.1 pc = .ok (.invokevirtual 64, 3)) (hkd : pmKind T a = 12) (hn : pmNum r ≤ 8) (k : EvP X d MX12_best 0 [.ref a, .int x0, .int x1, pmJ, pmJ, pmJ, pmJ, pmJ, pmJ, pmJ, pmJ] [] T v (fun o T' v' => EvP X (d + 1) M (pc + 3) ls (pmPush o r) T' v' P)) : EvP X (d + 1) M pc ls (.int x1 :: .int x0 :: .ref a :: r) T v P :=
  ev_callV (as := [.int x0, .int x1]) pc hd (by rw [hM]; exact rfl) hkd rfl pl_166 rfl hn (Nat.le_of_ble_eq_true rfl) rfl k
theorem cv_40_65_11 {X : pmX} {d : Nat} {M : pmM} {ls r : List Value} {T : pmT} {v : pmV} {P : Option Value → pmT → pmV → Prop} {pc : Nat} {a : Nat} {x0 : Int32} {x1 : Int32} (hM : M.1 = 40) (hd : decode M.2.2.1 pc = .ok (.invokevirtual 65, 3)) (hkd : pmKind T a = 11) (hn : pmNum r ≤ 8) (k : EvP X d MX11_two 0 [.ref a, .int x0, .int x1, pmJ, pmJ, pmJ] [] T v (fun o T' v' => EvP X (d + 1) M (pc + 3) ls (pmPush o r) T' v' P)) : EvP X (d + 1) M pc ls (.int x1 :: .int x0 :: .ref a :: r) T v P :=
  ev_callV (as := [.int x0, .int x1]) pc hd (by rw [hM]; exact rfl) hkd rfl pl_88 rfl hn (Nat.le_of_ble_eq_true rfl) rfl k
theorem cv_40_68_12 {X : pmX} {d : Nat} {M : pmM} {ls r : List Value} {T : pmT} {v : pmV} {P : Option Value → pmT → pmV → Prop} {pc : Nat} {a : Nat} {x0 : Int32} {x1 : Int32} (hM : M.1 = 40) (hd : decode M.2.2.1 pc = .ok (.invokevirtual 68, 3)) (hkd : pmKind T a = 12) (hn : pmNum r ≤ 8) (k : EvP X d MX12_two 0 [.ref a, .int x0, .int x1, pmJ, pmJ, pmJ, pmJ, pmJ, pmJ, pmJ, pmJ, pmJ, pmJ] [] T v (fun o T' v' => EvP X (d + 1) M (pc + 3) ls (pmPush o r) T' v' P)) : EvP X (d + 1) M pc ls (.int x1 :: .int x0 :: .ref a :: r) T v P :=
  ev_callV (as := [.int x0, .int x1]) pc hd (by rw [hM]; exact rfl) hkd rfl pl_167 rfl hn (Nat.le_of_ble_eq_true rfl) rfl k
theorem cv_40_69_11 {X : pmX} {d : Nat} {M : pmM} {ls r : List Value} {T : pmT} {v : pmV} {P : Option Value → pmT → pmV → Prop} {pc : Nat} {a : Nat} {x0 : Int32} {x1 : Int32} (hM : M.1 = 40) (hd : decode M.2.2.1 pc = .ok (.invokevirtual 69, 3)) (hkd : pmKind T a = 11) (hn : pmNum r ≤ 8) (k : EvP X d MX11_enough 0 [.ref a, .int x0, .int x1, pmJ] [] T v (fun o T' v' => EvP X (d + 1) M (pc + 3) ls (pmPush o r) T' v' P)) : EvP X (d + 1) M pc ls (.int x1 :: .int x0 :: .ref a :: r) T v P :=
  ev_callV (as := [.int x0, .int x1]) pc hd (by rw [hM]; exact rfl) hkd rfl pl_89 rfl hn (Nat.le_of_ble_eq_true rfl) rfl k
theorem cv_40_72_12 {X : pmX} {d : Nat} {M : pmM} {ls r : List Value} {T : pmT} {v : pmV} {P : Option Value → pmT → pmV → Prop} {pc : Nat} {a : Nat} {x0 : Int32} {x1 : Int32} (hM : M.1 = 40) (hd : decode M.2.2.1 pc = .ok (.invokevirtual 72, 3)) (hkd : pmKind T a = 12) (hn : pmNum r ≤ 8) (k : EvP X d MX12_enough 0 [.ref a, .int x0, .int x1, pmJ, pmJ] [] T v (fun o T' v' => EvP X (d + 1) M (pc + 3) ls (pmPush o r) T' v' P)) : EvP X (d + 1) M pc ls (.int x1 :: .int x0 :: .ref a :: r) T v P :=
  ev_callV (as := [.int x0, .int x1]) pc hd (by rw [hM]; exact rfl) hkd rfl pl_168 rfl hn (Nat.le_of_ble_eq_true rfl) rfl k
theorem cv_40_73_11 {X : pmX} {d : Nat} {M : pmM} {ls r : List Value} {T : pmT} {v : pmV} {P : Option Value → pmT → pmV → Prop} {pc : Nat} {a : Nat} {x0 : Int32} {x1 : Int32} (hM : M.1 = 40) (hd : decode M.2.2.1 pc = .ok (.invokevirtual 73, 3)) (hkd : pmKind T a = 11) (hn : pmNum r ≤ 8) (k : EvP X d MX11_worth 0 [.ref a, .int x0, .int x1, pmJ, pmJ] [] T v (fun o T' v' => EvP X (d + 1) M (pc + 3) ls (pmPush o r) T' v' P)) : EvP X (d + 1) M pc ls (.int x1 :: .int x0 :: .ref a :: r) T v P :=
  ev_callV (as := [.int x0, .int x1]) pc hd (by rw [hM]; exact rfl) hkd rfl pl_90 rfl hn (Nat.le_of_ble_eq_true rfl) rfl k
theorem cv_40_76_12 {X : pmX} {d : Nat} {M : pmM} {ls r : List Value} {T : pmT} {v : pmV} {P : Option Value → pmT → pmV → Prop} {pc : Nat} {a : Nat} {x0 : Int32} {x1 : Int32} (hM : M.1 = 40) (hd : decode M.2.2.1 pc = .ok (.invokevirtual 76, 3)) (hkd : pmKind T a = 12) (hn : pmNum r ≤ 8) (k : EvP X d MX12_worth 0 [.ref a, .int x0, .int x1, pmJ, pmJ] [] T v (fun o T' v' => EvP X (d + 1) M (pc + 3) ls (pmPush o r) T' v' P)) : EvP X (d + 1) M pc ls (.int x1 :: .int x0 :: .ref a :: r) T v P :=
  ev_callV (as := [.int x0, .int x1]) pc hd (by rw [hM]; exact rfl) hkd rfl pl_169 rfl hn (Nat.le_of_ble_eq_true rfl) rfl k
theorem cv_40_77_11 {X : pmX} {d : Nat} {M : pmM} {ls r : List Value} {T : pmT} {v : pmV} {P : Option Value → pmT → pmV → Prop} {pc : Nat} {a : Nat} {x0 : Int32} (hM : M.1 = 40) (hd : decode M.2.2.1 pc = .ok (.invokevirtual 77, 3)) (hkd : pmKind T a = 11) (hn : pmNum r ≤ 8) (k : EvP X d MX11_judge 0 [.ref a, .int x0, pmJ] [] T v (fun o T' v' => EvP X (d + 1) M (pc + 3) ls (pmPush o r) T' v' P)) : EvP X (d + 1) M pc ls (.int x0 :: .ref a :: r) T v P :=
  ev_callV (as := [.int x0]) pc hd (by rw [hM]; exact rfl) hkd rfl pl_91 rfl hn (Nat.le_of_ble_eq_true rfl) rfl k
theorem cv_40_80_12 {X : pmX} {d : Nat} {M : pmM} {ls r : List Value} {T : pmT} {v : pmV} {P : Option Value → pmT → pmV → Prop} {pc : Nat} {a : Nat} {x0 : Int32} (hM : M.1 = 40) (hd : decode M.2.2.1 pc = .ok (.invokevirtual 80, 3)) (hkd : pmKind T a = 12) (hn : pmNum r ≤ 8) (k : EvP X d MX12_judge 0 [.ref a, .int x0, pmJ, pmJ, pmJ] [] T v (fun o T' v' => EvP X (d + 1) M (pc + 3) ls (pmPush o r) T' v' P)) : EvP X (d + 1) M pc ls (.int x0 :: .ref a :: r) T v P :=
  ev_callV (as := [.int x0]) pc hd (by rw [hM]; exact rfl) hkd rfl pl_170 rfl hn (Nat.le_of_ble_eq_true rfl) rfl k
theorem cv_40_81_11 {X : pmX} {d : Nat} {M : pmM} {ls r : List Value} {T : pmT} {v : pmV} {P : Option Value → pmT → pmV → Prop} {pc : Nat} {a : Nat}  (hM : M.1 = 40) (hd : decode M.2.2.1 pc = .ok (.invokevirtual 81, 3)) (hkd : pmKind T a = 11) (hn : pmNum r ≤ 8) (k : EvP X d MX11_image 0 [.ref a] [] T v (fun o T' v' => EvP X (d + 1) M (pc + 3) ls (pmPush o r) T' v' P)) : EvP X (d + 1) M pc ls (.ref a :: r) T v P :=
  ev_callV (as := []) pc hd (by rw [hM]; exact rfl) hkd rfl pl_92 rfl hn (Nat.le_of_ble_eq_true rfl) rfl k
theorem cv_40_84_12 {X : pmX} {d : Nat} {M : pmM} {ls r : List Value} {T : pmT} {v : pmV} {P : Option Value → pmT → pmV → Prop} {pc : Nat} {a : Nat}  (hM : M.1 = 40) (hd : decode M.2.2.1 pc = .ok (.invokevirtual 84, 3)) (hkd : pmKind T a = 12) (hn : pmNum r ≤ 8) (k : EvP X d MX12_image 0 [.ref a, pmJ] [] T v (fun o T' v' => EvP X (d + 1) M (pc + 3) ls (pmPush o r) T' v' P)) : EvP X (d + 1) M pc ls (.ref a :: r) T v P :=
  ev_callV (as := []) pc hd (by rw [hM]; exact rfl) hkd rfl pl_171 rfl hn (Nat.le_of_ble_eq_true rfl) rfl k
theorem cv_40_85_11 {X : pmX} {d : Nat} {M : pmM} {ls r : List Value} {T : pmT} {v : pmV} {P : Option Value → pmT → pmV → Prop} {pc : Nat} {a : Nat}  (hM : M.1 = 40) (hd : decode M.2.2.1 pc = .ok (.invokevirtual 85, 3)) (hkd : pmKind T a = 11) (hn : pmNum r ≤ 8) (k : EvP X d MX11_back 0 [.ref a] [] T v (fun o T' v' => EvP X (d + 1) M (pc + 3) ls (pmPush o r) T' v' P)) : EvP X (d + 1) M pc ls (.ref a :: r) T v P :=
  ev_callV (as := []) pc hd (by rw [hM]; exact rfl) hkd rfl pl_93 rfl hn (Nat.le_of_ble_eq_true rfl) rfl k
theorem cv_40_88_12 {X : pmX} {d : Nat} {M : pmM} {ls r : List Value} {T : pmT} {v : pmV} {P : Option Value → pmT → pmV → Prop} {pc : Nat} {a : Nat}  (hM : M.1 = 40) (hd : decode M.2.2.1 pc = .ok (.invokevirtual 88, 3)) (hkd : pmKind T a = 12) (hn : pmNum r ≤ 8) (k : EvP X d MX12_back 0 [.ref a, pmJ] [] T v (fun o T' v' => EvP X (d + 1) M (pc + 3) ls (pmPush o r) T' v' P)) : EvP X (d + 1) M pc ls (.ref a :: r) T v P :=
  ev_callV (as := []) pc hd (by rw [hM]; exact rfl) hkd rfl pl_172 rfl hn (Nat.le_of_ble_eq_true rfl) rfl k
theorem cv_40_89_11 {X : pmX} {d : Nat} {M : pmM} {ls r : List Value} {T : pmT} {v : pmV} {P : Option Value → pmT → pmV → Prop} {pc : Nat} {a : Nat} {x0 : Int32} (hM : M.1 = 40) (hd : decode M.2.2.1 pc = .ok (.invokevirtual 89, 3)) (hkd : pmKind T a = 11) (hn : pmNum r ≤ 8) (k : EvP X d MX11_count 0 [.ref a, .int x0] [] T v (fun o T' v' => EvP X (d + 1) M (pc + 3) ls (pmPush o r) T' v' P)) : EvP X (d + 1) M pc ls (.int x0 :: .ref a :: r) T v P :=
  ev_callV (as := [.int x0]) pc hd (by rw [hM]; exact rfl) hkd rfl pl_94 rfl hn (Nat.le_of_ble_eq_true rfl) rfl k
theorem cv_40_92_12 {X : pmX} {d : Nat} {M : pmM} {ls r : List Value} {T : pmT} {v : pmV} {P : Option Value → pmT → pmV → Prop} {pc : Nat} {a : Nat} {x0 : Int32} (hM : M.1 = 40) (hd : decode M.2.2.1 pc = .ok (.invokevirtual 92, 3)) (hkd : pmKind T a = 12) (hn : pmNum r ≤ 8) (k : EvP X d MX12_count 0 [.ref a, .int x0, pmJ, pmJ] [] T v (fun o T' v' => EvP X (d + 1) M (pc + 3) ls (pmPush o r) T' v' P)) : EvP X (d + 1) M pc ls (.int x0 :: .ref a :: r) T v P :=
  ev_callV (as := [.int x0]) pc hd (by rw [hM]; exact rfl) hkd rfl pl_174 rfl hn (Nat.le_of_ble_eq_true rfl) rfl k
theorem cv_40_93_11 {X : pmX} {d : Nat} {M : pmM} {ls r : List Value} {T : pmT} {v : pmV} {P : Option Value → pmT → pmV → Prop} {pc : Nat} {a : Nat} {x0 : Int32} {x1 : Int32} {x2 : Int32} (hM : M.1 = 40) (hd : decode M.2.2.1 pc = .ok (.invokevirtual 93, 3)) (hkd : pmKind T a = 11) (hn : pmNum r ≤ 8) (k : EvP X d MX11_sheet 0 [.ref a, .int x0, .int x1, .int x2, pmJ] [] T v (fun o T' v' => EvP X (d + 1) M (pc + 3) ls (pmPush o r) T' v' P)) : EvP X (d + 1) M pc ls (.int x2 :: .int x1 :: .int x0 :: .ref a :: r) T v P :=
  ev_callV (as := [.int x0, .int x1, .int x2]) pc hd (by rw [hM]; exact rfl) hkd rfl pl_95 rfl hn (Nat.le_of_ble_eq_true rfl) rfl k
theorem cv_40_96_12 {X : pmX} {d : Nat} {M : pmM} {ls r : List Value} {T : pmT} {v : pmV} {P : Option Value → pmT → pmV → Prop} {pc : Nat} {a : Nat} {x0 : Int32} {x1 : Int32} {x2 : Int32} (hM : M.1 = 40) (hd : decode M.2.2.1 pc = .ok (.invokevirtual 96, 3)) (hkd : pmKind T a = 12) (hn : pmNum r ≤ 8) (k : EvP X d MX12_sheet 0 [.ref a, .int x0, .int x1, .int x2, pmJ] [] T v (fun o T' v' => EvP X (d + 1) M (pc + 3) ls (pmPush o r) T' v' P)) : EvP X (d + 1) M pc ls (.int x2 :: .int x1 :: .int x0 :: .ref a :: r) T v P :=
  ev_callV (as := [.int x0, .int x1, .int x2]) pc hd (by rw [hM]; exact rfl) hkd rfl pl_176 rfl hn (Nat.le_of_ble_eq_true rfl) rfl k
theorem cv_40_97_11 {X : pmX} {d : Nat} {M : pmM} {ls r : List Value} {T : pmT} {v : pmV} {P : Option Value → pmT → pmV → Prop} {pc : Nat} {a : Nat} {x0 : Int32} {x1 : Int32} {x2 : Int32} (hM : M.1 = 40) (hd : decode M.2.2.1 pc = .ok (.invokevirtual 97, 3)) (hkd : pmKind T a = 11) (hn : pmNum r ≤ 8) (k : EvP X d MX11_cell 0 [.ref a, .int x0, .int x1, .int x2, pmJ] [] T v (fun o T' v' => EvP X (d + 1) M (pc + 3) ls (pmPush o r) T' v' P)) : EvP X (d + 1) M pc ls (.int x2 :: .int x1 :: .int x0 :: .ref a :: r) T v P :=
  ev_callV (as := [.int x0, .int x1, .int x2]) pc hd (by rw [hM]; exact rfl) hkd rfl pl_96 rfl hn (Nat.le_of_ble_eq_true rfl) rfl k
theorem cv_40_100_12 {X : pmX} {d : Nat} {M : pmM} {ls r : List Value} {T : pmT} {v : pmV} {P : Option Value → pmT → pmV → Prop} {pc : Nat} {a : Nat} {x0 : Int32} {x1 : Int32} {x2 : Int32} (hM : M.1 = 40) (hd : decode M.2.2.1 pc = .ok (.invokevirtual 100, 3)) (hkd : pmKind T a = 12) (hn : pmNum r ≤ 8) (k : EvP X d MX12_cell 0 [.ref a, .int x0, .int x1, .int x2] [] T v (fun o T' v' => EvP X (d + 1) M (pc + 3) ls (pmPush o r) T' v' P)) : EvP X (d + 1) M pc ls (.int x2 :: .int x1 :: .int x0 :: .ref a :: r) T v P :=
  ev_callV (as := [.int x0, .int x1, .int x2]) pc hd (by rw [hM]; exact rfl) hkd rfl pl_177 rfl hn (Nat.le_of_ble_eq_true rfl) rfl k
theorem cv_40_101_11 {X : pmX} {d : Nat} {M : pmM} {ls r : List Value} {T : pmT} {v : pmV} {P : Option Value → pmT → pmV → Prop} {pc : Nat} {a : Nat} {x0 : Int32} {x1 : Int32} {x2 : Int32} {x3 : Int32} {x4 : Int32} (hM : M.1 = 40) (hd : decode M.2.2.1 pc = .ok (.invokevirtual 101, 3)) (hkd : pmKind T a = 11) (hn : pmNum r ≤ 8) (k : EvP X d MX11_copy 0 [.ref a, .int x0, .int x1, .int x2, .int x3, .int x4, pmJ, pmJ] [] T v (fun o T' v' => EvP X (d + 1) M (pc + 3) ls (pmPush o r) T' v' P)) : EvP X (d + 1) M pc ls (.int x4 :: .int x3 :: .int x2 :: .int x1 :: .int x0 :: .ref a :: r) T v P :=
  ev_callV (as := [.int x0, .int x1, .int x2, .int x3, .int x4]) pc hd (by rw [hM]; exact rfl) hkd rfl pl_97 rfl hn (Nat.le_of_ble_eq_true rfl) rfl k
theorem cv_40_105_12 {X : pmX} {d : Nat} {M : pmM} {ls r : List Value} {T : pmT} {v : pmV} {P : Option Value → pmT → pmV → Prop} {pc : Nat} {a : Nat} {x0 : Int32} {x1 : Int32} {x2 : Int32} {x3 : Int32} {x4 : Int32} (hM : M.1 = 40) (hd : decode M.2.2.1 pc = .ok (.invokevirtual 105, 3)) (hkd : pmKind T a = 12) (hn : pmNum r ≤ 8) (k : EvP X d MX12_copy 0 [.ref a, .int x0, .int x1, .int x2, .int x3, .int x4, pmJ] [] T v (fun o T' v' => EvP X (d + 1) M (pc + 3) ls (pmPush o r) T' v' P)) : EvP X (d + 1) M pc ls (.int x4 :: .int x3 :: .int x2 :: .int x1 :: .int x0 :: .ref a :: r) T v P :=
  ev_callV (as := [.int x0, .int x1, .int x2, .int x3, .int x4]) pc hd (by rw [hM]; exact rfl) hkd rfl pl_178 rfl hn (Nat.le_of_ble_eq_true rfl) rfl k
theorem cv_40_106_11 {X : pmX} {d : Nat} {M : pmM} {ls r : List Value} {T : pmT} {v : pmV} {P : Option Value → pmT → pmV → Prop} {pc : Nat} {a : Nat} {x0 : Int32} {x1 : Int32} {x2 : Int32} {x3 : Int32} (hM : M.1 = 40) (hd : decode M.2.2.1 pc = .ok (.invokevirtual 106, 3)) (hkd : pmKind T a = 11) (hn : pmNum r ≤ 8) (k : EvP X d MX11_lanes 0 [.ref a, .int x0, .int x1, .int x2, .int x3, pmJ, pmJ, pmJ, pmJ] [] T v (fun o T' v' => EvP X (d + 1) M (pc + 3) ls (pmPush o r) T' v' P)) : EvP X (d + 1) M pc ls (.int x3 :: .int x2 :: .int x1 :: .int x0 :: .ref a :: r) T v P :=
  ev_callV (as := [.int x0, .int x1, .int x2, .int x3]) pc hd (by rw [hM]; exact rfl) hkd rfl pl_98 rfl hn (Nat.le_of_ble_eq_true rfl) rfl k
theorem cv_40_110_12 {X : pmX} {d : Nat} {M : pmM} {ls r : List Value} {T : pmT} {v : pmV} {P : Option Value → pmT → pmV → Prop} {pc : Nat} {a : Nat} {x0 : Int32} {x1 : Int32} {x2 : Int32} {x3 : Int32} (hM : M.1 = 40) (hd : decode M.2.2.1 pc = .ok (.invokevirtual 110, 3)) (hkd : pmKind T a = 12) (hn : pmNum r ≤ 8) (k : EvP X d MX12_lanes 0 [.ref a, .int x0, .int x1, .int x2, .int x3, pmJ, pmJ, pmJ] [] T v (fun o T' v' => EvP X (d + 1) M (pc + 3) ls (pmPush o r) T' v' P)) : EvP X (d + 1) M pc ls (.int x3 :: .int x2 :: .int x1 :: .int x0 :: .ref a :: r) T v P :=
  ev_callV (as := [.int x0, .int x1, .int x2, .int x3]) pc hd (by rw [hM]; exact rfl) hkd rfl pl_179 rfl hn (Nat.le_of_ble_eq_true rfl) rfl k
theorem cv_40_111_11 {X : pmX} {d : Nat} {M : pmM} {ls r : List Value} {T : pmT} {v : pmV} {P : Option Value → pmT → pmV → Prop} {pc : Nat} {a : Nat} {x0 : Int32} {x1 : Int32} (hM : M.1 = 40) (hd : decode M.2.2.1 pc = .ok (.invokevirtual 111, 3)) (hkd : pmKind T a = 11) (hn : pmNum r ≤ 8) (k : EvP X d MX11_taken 0 [.ref a, .int x0, .int x1, pmJ] [] T v (fun o T' v' => EvP X (d + 1) M (pc + 3) ls (pmPush o r) T' v' P)) : EvP X (d + 1) M pc ls (.int x1 :: .int x0 :: .ref a :: r) T v P :=
  ev_callV (as := [.int x0, .int x1]) pc hd (by rw [hM]; exact rfl) hkd rfl pl_99 rfl hn (Nat.le_of_ble_eq_true rfl) rfl k
theorem cv_40_114_12 {X : pmX} {d : Nat} {M : pmM} {ls r : List Value} {T : pmT} {v : pmV} {P : Option Value → pmT → pmV → Prop} {pc : Nat} {a : Nat} {x0 : Int32} {x1 : Int32} (hM : M.1 = 40) (hd : decode M.2.2.1 pc = .ok (.invokevirtual 114, 3)) (hkd : pmKind T a = 12) (hn : pmNum r ≤ 8) (k : EvP X d MX12_taken 0 [.ref a, .int x0, .int x1, pmJ] [] T v (fun o T' v' => EvP X (d + 1) M (pc + 3) ls (pmPush o r) T' v' P)) : EvP X (d + 1) M pc ls (.int x1 :: .int x0 :: .ref a :: r) T v P :=
  ev_callV (as := [.int x0, .int x1]) pc hd (by rw [hM]; exact rfl) hkd rfl pl_180 rfl hn (Nat.le_of_ble_eq_true rfl) rfl k
theorem ln_4_103 : pmAt pmLdcL (4, 103) = none := rfl
theorem ls_4_103 : pmStrAt 4 103 = some 1 := by decide
theorem ln_4_105 : pmAt pmLdcL (4, 105) = none := rfl
theorem ls_4_105 : pmStrAt 4 105 = some 2 := by decide
theorem ln_4_107 : pmAt pmLdcL (4, 107) = none := rfl
theorem ls_4_107 : pmStrAt 4 107 = some 3 := by decide
theorem ln_4_109 : pmAt pmLdcL (4, 109) = none := rfl
theorem ls_4_109 : pmStrAt 4 109 = some 4 := by decide
theorem ln_4_111 : pmAt pmLdcL (4, 111) = none := rfl
theorem ls_4_111 : pmStrAt 4 111 = some 5 := by decide
theorem ln_4_113 : pmAt pmLdcL (4, 113) = none := rfl
theorem ls_4_113 : pmStrAt 4 113 = some 6 := by decide
theorem ln_4_115 : pmAt pmLdcL (4, 115) = none := rfl
theorem ls_4_115 : pmStrAt 4 115 = some 7 := by decide
theorem ln_4_117 : pmAt pmLdcL (4, 117) = none := rfl
theorem ls_4_117 : pmStrAt 4 117 = some 8 := by decide
theorem ln_4_119 : pmAt pmLdcL (4, 119) = none := rfl
theorem ls_4_119 : pmStrAt 4 119 = some 9 := by decide
theorem ln_4_121 : pmAt pmLdcL (4, 121) = none := rfl
theorem ls_4_121 : pmStrAt 4 121 = some 10 := by decide
theorem ln_4_123 : pmAt pmLdcL (4, 123) = none := rfl
theorem ls_4_123 : pmStrAt 4 123 = some 11 := by decide
theorem ln_4_125 : pmAt pmLdcL (4, 125) = none := rfl
theorem ls_4_125 : pmStrAt 4 125 = some 12 := by decide
theorem ln_4_127 : pmAt pmLdcL (4, 127) = none := rfl
theorem ls_4_127 : pmStrAt 4 127 = some 13 := by decide
theorem ln_11_57 : pmAt pmLdcL (11, 57) = none := rfl
theorem ls_11_57 : pmStrAt 11 57 = some 0 := by decide
theorem lc_12_229 : pmAt pmLdcL (12, 229) = some (677454, 1228) := rfl
theorem lc_12_230 : pmAt pmLdcL (12, 230) = some (525614, 1229) := rfl
theorem lc_12_231 : pmAt pmLdcL (12, 231) = some (441925, 1230) := rfl
theorem lc_12_232 : pmAt pmLdcL (12, 232) = some (754996, 1219) := rfl
theorem lc_12_233 : pmAt pmLdcL (12, 233) = some (12630195, 1220) := rfl
theorem lc_12_234 : pmAt pmLdcL (12, 234) = some (446125701, 1221) := rfl
theorem lc_12_235 : pmAt pmLdcL (12, 235) = some (631941, 1222) := rfl
theorem lc_12_236 : pmAt pmLdcL (12, 236) = some (5685913, 1223) := rfl
theorem l2_11_159 : pmAt pmLd2L (11, 159) = some (-4611686018427387904, 750) := rfl
theorem l2_11_185 : pmAt pmLd2L (11, 185) = some (4611686018427387904, 773) := rfl
theorem l2_11_191 : pmAt pmLd2L (11, 191) = some (-1, 862) := rfl
theorem l2_12_209 : pmAt pmLd2L (12, 209) = some (255, 1194) := rfl
theorem l2_12_314 : pmAt pmLd2L (12, 314) = some (-4611686018427387904, 1291) := rfl
theorem l2_12_323 : pmAt pmLd2L (12, 323) = some (-1, 1356) := rfl
theorem l2_40_35 : pmAt pmLd2L (40, 35) = some (4294967295, 1405) := rfl
theorem nw_1_17 : ∃ h, pmAt pmNewL (1, 17) = some (5, h) := ⟨_, rfl⟩
theorem nw_1_24 : ∃ h, pmAt pmNewL (1, 24) = some (9, h) := ⟨_, rfl⟩
theorem nw_4_24 : ∃ h, pmAt pmNewL (4, 24) = some (9, h) := ⟨_, rfl⟩
theorem nw_11_9 : ∃ h, pmAt pmNewL (11, 9) = some (3, h) := ⟨_, rfl⟩
theorem nw_11_15 : ∃ h, pmAt pmNewL (11, 15) = some (5, h) := ⟨_, rfl⟩
theorem nw_11_25 : ∃ h, pmAt pmNewL (11, 25) = some (9, h) := ⟨_, rfl⟩
theorem nw_11_31 : ∃ h, pmAt pmNewL (11, 31) = some (4, h) := ⟨_, rfl⟩
theorem nw_11_38 : ∃ h, pmAt pmNewL (11, 38) = some (6, h) := ⟨_, rfl⟩
theorem nw_11_44 : ∃ h, pmAt pmNewL (11, 44) = some (1, h) := ⟨_, rfl⟩
theorem nw_11_270 : ∃ h, pmAt pmNewL (11, 270) = some (10, h) := ⟨_, rfl⟩
theorem nw_11_274 : ∃ h, pmAt pmNewL (11, 274) = some (0, h) := ⟨_, rfl⟩
theorem nw_11_277 : ∃ h, pmAt pmNewL (11, 277) = some (7, h) := ⟨_, rfl⟩
theorem nw_11_280 : ∃ h, pmAt pmNewL (11, 280) = some (8, h) := ⟨_, rfl⟩
theorem nw_11_283 : ∃ h, pmAt pmNewL (11, 283) = some (2, h) := ⟨_, rfl⟩
theorem nw_40_7 : ∃ h, pmAt pmNewL (40, 7) = some (11, h) := ⟨_, rfl⟩
theorem nw_40_10 : ∃ h, pmAt pmNewL (40, 10) = some (12, h) := ⟨_, rfl⟩
theorem pf_1_11 {X : pmX} {d : Nat} {M : pmM} {ls st : List Value} {T : pmT} {v : pmV} {P : Option Value → pmT → pmV → Prop} {pc : Nat} {a x : Nat} (hM : M.1 = 1) (hd : decode M.2.2.1 pc = .ok (.putfield 11, 3)) (hk : pmKind T a = 1) (hx : 32 ≤ x) (k : EvP X d M (pc + 3) ls st T (uR v a 0 (some x)) P) : EvP X d M pc ls (.ref x :: .ref a :: st) T v P :=
  ev_putf (k0 := 0) (ci := 1) pc hd (by rw [hM]; exact rfl) hk (by decide) (fun q => by cases q) (if_pos hx) k
theorem pf_1_20 {X : pmX} {d : Nat} {M : pmM} {ls st : List Value} {T : pmT} {v : pmV} {P : Option Value → pmT → pmV → Prop} {pc : Nat} {a x : Nat} (hM : M.1 = 1) (hd : decode M.2.2.1 pc = .ok (.putfield 20, 3)) (hk : pmKind T a = 1) (hx : 32 ≤ x) (k : EvP X d M (pc + 3) ls st T (uR v a 2 (some x)) P) : EvP X d M pc ls (.ref x :: .ref a :: st) T v P :=
  ev_putf (k0 := 2) (ci := 1) pc hd (by rw [hM]; exact rfl) hk (by decide) (fun q => by cases q) (if_pos hx) k
theorem pf_1_27 {X : pmX} {d : Nat} {M : pmM} {ls st : List Value} {T : pmT} {v : pmV} {P : Option Value → pmT → pmV → Prop} {pc : Nat} {a x : Nat} (hM : M.1 = 1) (hd : decode M.2.2.1 pc = .ok (.putfield 27, 3)) (hk : pmKind T a = 1) (hx : 32 ≤ x) (k : EvP X d M (pc + 3) ls st T (uR v a 3 (some x)) P) : EvP X d M pc ls (.ref x :: .ref a :: st) T v P :=
  ev_putf (k0 := 3) (ci := 1) pc hd (by rw [hM]; exact rfl) hk (by decide) (fun q => by cases q) (if_pos hx) k
theorem pf_1_31 {X : pmX} {d : Nat} {M : pmM} {ls st : List Value} {T : pmT} {v : pmV} {P : Option Value → pmT → pmV → Prop} {pc : Nat} {a x : Nat} (hM : M.1 = 1) (hd : decode M.2.2.1 pc = .ok (.putfield 31, 3)) (hk : pmKind T a = 1) (hx : 32 ≤ x) (hN : M.2.1.name = "<init>" := by rfl) (k : EvP X d M (pc + 3) ls st T (uR v a 4 (some x)) P) : EvP X d M pc ls (.ref x :: .ref a :: st) T v P :=
  ev_putf (k0 := 4) (ci := 1) pc hd (by rw [hM]; exact rfl) hk (by decide) (fun _ => ⟨hN, by rw [hM]; rfl⟩) (if_pos hx) k
theorem pf_1_35 {X : pmX} {d : Nat} {M : pmM} {ls st : List Value} {T : pmT} {v : pmV} {P : Option Value → pmT → pmV → Prop} {pc : Nat} {a x : Nat} (hM : M.1 = 1) (hd : decode M.2.2.1 pc = .ok (.putfield 35, 3)) (hk : pmKind T a = 1) (hx : 32 ≤ x) (hN : M.2.1.name = "<init>" := by rfl) (k : EvP X d M (pc + 3) ls st T (uR v a 9 (some x)) P) : EvP X d M pc ls (.ref x :: .ref a :: st) T v P :=
  ev_putf (k0 := 9) (ci := 1) pc hd (by rw [hM]; exact rfl) hk (by decide) (fun _ => ⟨hN, by rw [hM]; rfl⟩) (if_pos hx) k
theorem pf_1_38 {X : pmX} {d : Nat} {M : pmM} {ls st : List Value} {T : pmT} {v : pmV} {P : Option Value → pmT → pmV → Prop} {pc : Nat} {a x : Nat} (hM : M.1 = 1) (hd : decode M.2.2.1 pc = .ok (.putfield 38, 3)) (hk : pmKind T a = 1) (hx : 32 ≤ x) (hN : M.2.1.name = "<init>" := by rfl) (k : EvP X d M (pc + 3) ls st T (uR v a 10 (some x)) P) : EvP X d M pc ls (.ref x :: .ref a :: st) T v P :=
  ev_putf (k0 := 10) (ci := 1) pc hd (by rw [hM]; exact rfl) hk (by decide) (fun _ => ⟨hN, by rw [hM]; rfl⟩) (if_pos hx) k
theorem pf_1_41 {X : pmX} {d : Nat} {M : pmM} {ls st : List Value} {T : pmT} {v : pmV} {P : Option Value → pmT → pmV → Prop} {pc : Nat} {a x : Nat} (hM : M.1 = 1) (hd : decode M.2.2.1 pc = .ok (.putfield 41, 3)) (hk : pmKind T a = 1) (hx : 32 ≤ x) (hN : M.2.1.name = "<init>" := by rfl) (k : EvP X d M (pc + 3) ls st T (uR v a 11 (some x)) P) : EvP X d M pc ls (.ref x :: .ref a :: st) T v P :=
  ev_putf (k0 := 11) (ci := 1) pc hd (by rw [hM]; exact rfl) hk (by decide) (fun _ => ⟨hN, by rw [hM]; rfl⟩) (if_pos hx) k
theorem pf_1_44 {X : pmX} {d : Nat} {M : pmM} {ls st : List Value} {T : pmT} {v : pmV} {P : Option Value → pmT → pmV → Prop} {pc : Nat} {a x : Nat} (hM : M.1 = 1) (hd : decode M.2.2.1 pc = .ok (.putfield 44, 3)) (hk : pmKind T a = 1) (hx : 32 ≤ x) (hN : M.2.1.name = "<init>" := by rfl) (k : EvP X d M (pc + 3) ls st T (uR v a 12 (some x)) P) : EvP X d M pc ls (.ref x :: .ref a :: st) T v P :=
  ev_putf (k0 := 12) (ci := 1) pc hd (by rw [hM]; exact rfl) hk (by decide) (fun _ => ⟨hN, by rw [hM]; rfl⟩) (if_pos hx) k
theorem pf_1_47 {X : pmX} {d : Nat} {M : pmM} {ls st : List Value} {T : pmT} {v : pmV} {P : Option Value → pmT → pmV → Prop} {pc : Nat} {a x : Nat} (hM : M.1 = 1) (hd : decode M.2.2.1 pc = .ok (.putfield 47, 3)) (hk : pmKind T a = 1) (hx : 32 ≤ x) (hN : M.2.1.name = "<init>" := by rfl) (k : EvP X d M (pc + 3) ls st T (uR v a 13 (some x)) P) : EvP X d M pc ls (.ref x :: .ref a :: st) T v P :=
  ev_putf (k0 := 13) (ci := 1) pc hd (by rw [hM]; exact rfl) hk (by decide) (fun _ => ⟨hN, by rw [hM]; rfl⟩) (if_pos hx) k
theorem pf_1_52 {X : pmX} {d : Nat} {M : pmM} {ls st : List Value} {T : pmT} {v : pmV} {P : Option Value → pmT → pmV → Prop} {pc : Nat} {a x : Nat} (hM : M.1 = 1) (hd : decode M.2.2.1 pc = .ok (.putfield 52, 3)) (hk : pmKind T a = 1) (hx : 32 ≤ x) (hN : M.2.1.name = "<init>" := by rfl) (k : EvP X d M (pc + 3) ls st T (uR v a 14 (some x)) P) : EvP X d M pc ls (.ref x :: .ref a :: st) T v P :=
  ev_putf (k0 := 14) (ci := 1) pc hd (by rw [hM]; exact rfl) hk (by decide) (fun _ => ⟨hN, by rw [hM]; rfl⟩) (if_pos hx) k
theorem pf_1_61 {X : pmX} {d : Nat} {M : pmM} {ls st : List Value} {T : pmT} {v : pmV} {P : Option Value → pmT → pmV → Prop} {pc : Nat} {a : Nat} {x : Int32} (hM : M.1 = 1) (hd : decode M.2.2.1 pc = .ok (.putfield 61, 3)) (hk : pmKind T a = 1) (k : EvP X d M (pc + 3) ls st T (uI v a 1 x) P) : EvP X d M pc ls (.int x :: .ref a :: st) T v P :=
  ev_putf (k0 := 1) (ci := 1) pc hd (by rw [hM]; exact rfl) hk (by decide) (fun q => by cases q) rfl k
theorem pf_1_71 {X : pmX} {d : Nat} {M : pmM} {ls st : List Value} {T : pmT} {v : pmV} {P : Option Value → pmT → pmV → Prop} {pc : Nat} {a : Nat} {x : Int32} (hM : M.1 = 1) (hd : decode M.2.2.1 pc = .ok (.putfield 71, 3)) (hk : pmKind T a = 1) (hx : x = 0 ∨ x = 1) (k : EvP X d M (pc + 3) ls st T (uI v a 5 x) P) : EvP X d M pc ls (.int x :: .ref a :: st) T v P :=
  ev_putf (k0 := 5) (ci := 1) pc hd (by rw [hM]; exact rfl) hk (by decide) (fun q => by cases q) (if_pos hx) k
theorem pf_1_75 {X : pmX} {d : Nat} {M : pmM} {ls st : List Value} {T : pmT} {v : pmV} {P : Option Value → pmT → pmV → Prop} {pc : Nat} {a : Nat} {x : Int32} (hM : M.1 = 1) (hd : decode M.2.2.1 pc = .ok (.putfield 75, 3)) (hk : pmKind T a = 1) (k : EvP X d M (pc + 3) ls st T (uI v a 6 x) P) : EvP X d M pc ls (.int x :: .ref a :: st) T v P :=
  ev_putf (k0 := 6) (ci := 1) pc hd (by rw [hM]; exact rfl) hk (by decide) (fun q => by cases q) rfl k
theorem pf_1_78 {X : pmX} {d : Nat} {M : pmM} {ls st : List Value} {T : pmT} {v : pmV} {P : Option Value → pmT → pmV → Prop} {pc : Nat} {a : Nat} {x : Int32} (hM : M.1 = 1) (hd : decode M.2.2.1 pc = .ok (.putfield 78, 3)) (hk : pmKind T a = 1) (k : EvP X d M (pc + 3) ls st T (uI v a 7 x) P) : EvP X d M pc ls (.int x :: .ref a :: st) T v P :=
  ev_putf (k0 := 7) (ci := 1) pc hd (by rw [hM]; exact rfl) hk (by decide) (fun q => by cases q) rfl k
theorem pf_1_81 {X : pmX} {d : Nat} {M : pmM} {ls st : List Value} {T : pmT} {v : pmV} {P : Option Value → pmT → pmV → Prop} {pc : Nat} {a : Nat} {x : Int32} (hM : M.1 = 1) (hd : decode M.2.2.1 pc = .ok (.putfield 81, 3)) (hk : pmKind T a = 1) (k : EvP X d M (pc + 3) ls st T (uI v a 8 x) P) : EvP X d M pc ls (.int x :: .ref a :: st) T v P :=
  ev_putf (k0 := 8) (ci := 1) pc hd (by rw [hM]; exact rfl) hk (by decide) (fun q => by cases q) rfl k
theorem pf_1_97 {X : pmX} {d : Nat} {M : pmM} {ls st : List Value} {T : pmT} {v : pmV} {P : Option Value → pmT → pmV → Prop} {pc : Nat} {a : Nat} {x : Int64} (hM : M.1 = 1) (hd : decode M.2.2.1 pc = .ok (.putfield 97, 3)) (hk : pmKind T a = 1) (k : EvP X d M (pc + 3) ls st T (uL v a 15 x) P) : EvP X d M pc ls (.long x :: .ref a :: st) T v P :=
  ev_putf (k0 := 15) (ci := 1) pc hd (by rw [hM]; exact rfl) hk (by decide) (fun q => by cases q) rfl k
theorem pf_1_129 {X : pmX} {d : Nat} {M : pmM} {ls st : List Value} {T : pmT} {v : pmV} {P : Option Value → pmT → pmV → Prop} {pc : Nat} {a : Nat} {x : Int32} (hM : M.1 = 1) (hd : decode M.2.2.1 pc = .ok (.putfield 129, 3)) (hk : pmKind T a = 1) (k : EvP X d M (pc + 3) ls st T (uI v a 16 x) P) : EvP X d M pc ls (.int x :: .ref a :: st) T v P :=
  ev_putf (k0 := 16) (ci := 1) pc hd (by rw [hM]; exact rfl) hk (by decide) (fun q => by cases q) rfl k
theorem pf_1_132 {X : pmX} {d : Nat} {M : pmM} {ls st : List Value} {T : pmT} {v : pmV} {P : Option Value → pmT → pmV → Prop} {pc : Nat} {a : Nat} {x : Int32} (hM : M.1 = 1) (hd : decode M.2.2.1 pc = .ok (.putfield 132, 3)) (hk : pmKind T a = 1) (k : EvP X d M (pc + 3) ls st T (uI v a 17 x) P) : EvP X d M pc ls (.int x :: .ref a :: st) T v P :=
  ev_putf (k0 := 17) (ci := 1) pc hd (by rw [hM]; exact rfl) hk (by decide) (fun q => by cases q) rfl k
theorem pf_3_7_0 {X : pmX} {d : Nat} {M : pmM} {ls st : List Value} {T : pmT} {v : pmV} {P : Option Value → pmT → pmV → Prop} {pc : Nat} {a : Nat} {x : Int32} (hM : M.1 = 3) (hd : decode M.2.2.1 pc = .ok (.putfield 7, 3)) (hk : pmKind T a = 0) (hN : M.2.1.name = "<init>" := by rfl) (k : EvP X d M (pc + 3) ls st T (uI v a 0 x) P) : EvP X d M pc ls (.int x :: .ref a :: st) T v P :=
  ev_putf (k0 := 0) (ci := 0) pc hd (by rw [hM]; exact rfl) hk (by decide) (fun _ => ⟨hN, by rw [hM]; rfl⟩) rfl k
theorem pf_3_7_2 {X : pmX} {d : Nat} {M : pmM} {ls st : List Value} {T : pmT} {v : pmV} {P : Option Value → pmT → pmV → Prop} {pc : Nat} {a : Nat} {x : Int32} (hM : M.1 = 3) (hd : decode M.2.2.1 pc = .ok (.putfield 7, 3)) (hk : pmKind T a = 2) (hN : M.2.1.name = "<init>" := by rfl) (k : EvP X d M (pc + 3) ls st T (uI v a 0 x) P) : EvP X d M pc ls (.int x :: .ref a :: st) T v P :=
  ev_putf (k0 := 0) (ci := 2) pc hd (by rw [hM]; exact rfl) hk (by decide) (fun _ => ⟨hN, by rw [hM]; rfl⟩) rfl k
theorem pf_3_7_3 {X : pmX} {d : Nat} {M : pmM} {ls st : List Value} {T : pmT} {v : pmV} {P : Option Value → pmT → pmV → Prop} {pc : Nat} {a : Nat} {x : Int32} (hM : M.1 = 3) (hd : decode M.2.2.1 pc = .ok (.putfield 7, 3)) (hk : pmKind T a = 3) (hN : M.2.1.name = "<init>" := by rfl) (k : EvP X d M (pc + 3) ls st T (uI v a 0 x) P) : EvP X d M pc ls (.int x :: .ref a :: st) T v P :=
  ev_putf (k0 := 0) (ci := 3) pc hd (by rw [hM]; exact rfl) hk (by decide) (fun _ => ⟨hN, by rw [hM]; rfl⟩) rfl k
theorem pf_3_7_7 {X : pmX} {d : Nat} {M : pmM} {ls st : List Value} {T : pmT} {v : pmV} {P : Option Value → pmT → pmV → Prop} {pc : Nat} {a : Nat} {x : Int32} (hM : M.1 = 3) (hd : decode M.2.2.1 pc = .ok (.putfield 7, 3)) (hk : pmKind T a = 7) (hN : M.2.1.name = "<init>" := by rfl) (k : EvP X d M (pc + 3) ls st T (uI v a 0 x) P) : EvP X d M pc ls (.int x :: .ref a :: st) T v P :=
  ev_putf (k0 := 0) (ci := 7) pc hd (by rw [hM]; exact rfl) hk (by decide) (fun _ => ⟨hN, by rw [hM]; rfl⟩) rfl k
theorem pf_3_7_8 {X : pmX} {d : Nat} {M : pmM} {ls st : List Value} {T : pmT} {v : pmV} {P : Option Value → pmT → pmV → Prop} {pc : Nat} {a : Nat} {x : Int32} (hM : M.1 = 3) (hd : decode M.2.2.1 pc = .ok (.putfield 7, 3)) (hk : pmKind T a = 8) (hN : M.2.1.name = "<init>" := by rfl) (k : EvP X d M (pc + 3) ls st T (uI v a 0 x) P) : EvP X d M pc ls (.int x :: .ref a :: st) T v P :=
  ev_putf (k0 := 0) (ci := 8) pc hd (by rw [hM]; exact rfl) hk (by decide) (fun _ => ⟨hN, by rw [hM]; rfl⟩) rfl k
theorem pf_3_7_10 {X : pmX} {d : Nat} {M : pmM} {ls st : List Value} {T : pmT} {v : pmV} {P : Option Value → pmT → pmV → Prop} {pc : Nat} {a : Nat} {x : Int32} (hM : M.1 = 3) (hd : decode M.2.2.1 pc = .ok (.putfield 7, 3)) (hk : pmKind T a = 10) (hN : M.2.1.name = "<init>" := by rfl) (k : EvP X d M (pc + 3) ls st T (uI v a 0 x) P) : EvP X d M pc ls (.int x :: .ref a :: st) T v P :=
  ev_putf (k0 := 0) (ci := 10) pc hd (by rw [hM]; exact rfl) hk (by decide) (fun _ => ⟨hN, by rw [hM]; rfl⟩) rfl k
theorem pf_3_13_0 {X : pmX} {d : Nat} {M : pmM} {ls st : List Value} {T : pmT} {v : pmV} {P : Option Value → pmT → pmV → Prop} {pc : Nat} {a : Nat} {x : Int32} (hM : M.1 = 3) (hd : decode M.2.2.1 pc = .ok (.putfield 13, 3)) (hk : pmKind T a = 0) (hN : M.2.1.name = "<init>" := by rfl) (k : EvP X d M (pc + 3) ls st T (uI v a 1 x) P) : EvP X d M pc ls (.int x :: .ref a :: st) T v P :=
  ev_putf (k0 := 1) (ci := 0) pc hd (by rw [hM]; exact rfl) hk (by decide) (fun _ => ⟨hN, by rw [hM]; rfl⟩) rfl k
theorem pf_3_13_2 {X : pmX} {d : Nat} {M : pmM} {ls st : List Value} {T : pmT} {v : pmV} {P : Option Value → pmT → pmV → Prop} {pc : Nat} {a : Nat} {x : Int32} (hM : M.1 = 3) (hd : decode M.2.2.1 pc = .ok (.putfield 13, 3)) (hk : pmKind T a = 2) (hN : M.2.1.name = "<init>" := by rfl) (k : EvP X d M (pc + 3) ls st T (uI v a 1 x) P) : EvP X d M pc ls (.int x :: .ref a :: st) T v P :=
  ev_putf (k0 := 1) (ci := 2) pc hd (by rw [hM]; exact rfl) hk (by decide) (fun _ => ⟨hN, by rw [hM]; rfl⟩) rfl k
theorem pf_3_13_3 {X : pmX} {d : Nat} {M : pmM} {ls st : List Value} {T : pmT} {v : pmV} {P : Option Value → pmT → pmV → Prop} {pc : Nat} {a : Nat} {x : Int32} (hM : M.1 = 3) (hd : decode M.2.2.1 pc = .ok (.putfield 13, 3)) (hk : pmKind T a = 3) (hN : M.2.1.name = "<init>" := by rfl) (k : EvP X d M (pc + 3) ls st T (uI v a 1 x) P) : EvP X d M pc ls (.int x :: .ref a :: st) T v P :=
  ev_putf (k0 := 1) (ci := 3) pc hd (by rw [hM]; exact rfl) hk (by decide) (fun _ => ⟨hN, by rw [hM]; rfl⟩) rfl k
theorem pf_3_13_7 {X : pmX} {d : Nat} {M : pmM} {ls st : List Value} {T : pmT} {v : pmV} {P : Option Value → pmT → pmV → Prop} {pc : Nat} {a : Nat} {x : Int32} (hM : M.1 = 3) (hd : decode M.2.2.1 pc = .ok (.putfield 13, 3)) (hk : pmKind T a = 7) (hN : M.2.1.name = "<init>" := by rfl) (k : EvP X d M (pc + 3) ls st T (uI v a 1 x) P) : EvP X d M pc ls (.int x :: .ref a :: st) T v P :=
  ev_putf (k0 := 1) (ci := 7) pc hd (by rw [hM]; exact rfl) hk (by decide) (fun _ => ⟨hN, by rw [hM]; rfl⟩) rfl k
theorem pf_3_13_8 {X : pmX} {d : Nat} {M : pmM} {ls st : List Value} {T : pmT} {v : pmV} {P : Option Value → pmT → pmV → Prop} {pc : Nat} {a : Nat} {x : Int32} (hM : M.1 = 3) (hd : decode M.2.2.1 pc = .ok (.putfield 13, 3)) (hk : pmKind T a = 8) (hN : M.2.1.name = "<init>" := by rfl) (k : EvP X d M (pc + 3) ls st T (uI v a 1 x) P) : EvP X d M pc ls (.int x :: .ref a :: st) T v P :=
  ev_putf (k0 := 1) (ci := 8) pc hd (by rw [hM]; exact rfl) hk (by decide) (fun _ => ⟨hN, by rw [hM]; rfl⟩) rfl k
theorem pf_3_13_10 {X : pmX} {d : Nat} {M : pmM} {ls st : List Value} {T : pmT} {v : pmV} {P : Option Value → pmT → pmV → Prop} {pc : Nat} {a : Nat} {x : Int32} (hM : M.1 = 3) (hd : decode M.2.2.1 pc = .ok (.putfield 13, 3)) (hk : pmKind T a = 10) (hN : M.2.1.name = "<init>" := by rfl) (k : EvP X d M (pc + 3) ls st T (uI v a 1 x) P) : EvP X d M pc ls (.int x :: .ref a :: st) T v P :=
  ev_putf (k0 := 1) (ci := 10) pc hd (by rw [hM]; exact rfl) hk (by decide) (fun _ => ⟨hN, by rw [hM]; rfl⟩) rfl k
theorem pf_3_16_0 {X : pmX} {d : Nat} {M : pmM} {ls st : List Value} {T : pmT} {v : pmV} {P : Option Value → pmT → pmV → Prop} {pc : Nat} {a : Nat} {x : Int32} (hM : M.1 = 3) (hd : decode M.2.2.1 pc = .ok (.putfield 16, 3)) (hk : pmKind T a = 0) (hN : M.2.1.name = "<init>" := by rfl) (k : EvP X d M (pc + 3) ls st T (uI v a 2 x) P) : EvP X d M pc ls (.int x :: .ref a :: st) T v P :=
  ev_putf (k0 := 2) (ci := 0) pc hd (by rw [hM]; exact rfl) hk (by decide) (fun _ => ⟨hN, by rw [hM]; rfl⟩) rfl k
theorem pf_3_16_2 {X : pmX} {d : Nat} {M : pmM} {ls st : List Value} {T : pmT} {v : pmV} {P : Option Value → pmT → pmV → Prop} {pc : Nat} {a : Nat} {x : Int32} (hM : M.1 = 3) (hd : decode M.2.2.1 pc = .ok (.putfield 16, 3)) (hk : pmKind T a = 2) (hN : M.2.1.name = "<init>" := by rfl) (k : EvP X d M (pc + 3) ls st T (uI v a 2 x) P) : EvP X d M pc ls (.int x :: .ref a :: st) T v P :=
  ev_putf (k0 := 2) (ci := 2) pc hd (by rw [hM]; exact rfl) hk (by decide) (fun _ => ⟨hN, by rw [hM]; rfl⟩) rfl k
theorem pf_3_16_3 {X : pmX} {d : Nat} {M : pmM} {ls st : List Value} {T : pmT} {v : pmV} {P : Option Value → pmT → pmV → Prop} {pc : Nat} {a : Nat} {x : Int32} (hM : M.1 = 3) (hd : decode M.2.2.1 pc = .ok (.putfield 16, 3)) (hk : pmKind T a = 3) (hN : M.2.1.name = "<init>" := by rfl) (k : EvP X d M (pc + 3) ls st T (uI v a 2 x) P) : EvP X d M pc ls (.int x :: .ref a :: st) T v P :=
  ev_putf (k0 := 2) (ci := 3) pc hd (by rw [hM]; exact rfl) hk (by decide) (fun _ => ⟨hN, by rw [hM]; rfl⟩) rfl k
theorem pf_3_16_7 {X : pmX} {d : Nat} {M : pmM} {ls st : List Value} {T : pmT} {v : pmV} {P : Option Value → pmT → pmV → Prop} {pc : Nat} {a : Nat} {x : Int32} (hM : M.1 = 3) (hd : decode M.2.2.1 pc = .ok (.putfield 16, 3)) (hk : pmKind T a = 7) (hN : M.2.1.name = "<init>" := by rfl) (k : EvP X d M (pc + 3) ls st T (uI v a 2 x) P) : EvP X d M pc ls (.int x :: .ref a :: st) T v P :=
  ev_putf (k0 := 2) (ci := 7) pc hd (by rw [hM]; exact rfl) hk (by decide) (fun _ => ⟨hN, by rw [hM]; rfl⟩) rfl k
theorem pf_3_16_8 {X : pmX} {d : Nat} {M : pmM} {ls st : List Value} {T : pmT} {v : pmV} {P : Option Value → pmT → pmV → Prop} {pc : Nat} {a : Nat} {x : Int32} (hM : M.1 = 3) (hd : decode M.2.2.1 pc = .ok (.putfield 16, 3)) (hk : pmKind T a = 8) (hN : M.2.1.name = "<init>" := by rfl) (k : EvP X d M (pc + 3) ls st T (uI v a 2 x) P) : EvP X d M pc ls (.int x :: .ref a :: st) T v P :=
  ev_putf (k0 := 2) (ci := 8) pc hd (by rw [hM]; exact rfl) hk (by decide) (fun _ => ⟨hN, by rw [hM]; rfl⟩) rfl k
theorem pf_3_16_10 {X : pmX} {d : Nat} {M : pmM} {ls st : List Value} {T : pmT} {v : pmV} {P : Option Value → pmT → pmV → Prop} {pc : Nat} {a : Nat} {x : Int32} (hM : M.1 = 3) (hd : decode M.2.2.1 pc = .ok (.putfield 16, 3)) (hk : pmKind T a = 10) (hN : M.2.1.name = "<init>" := by rfl) (k : EvP X d M (pc + 3) ls st T (uI v a 2 x) P) : EvP X d M pc ls (.int x :: .ref a :: st) T v P :=
  ev_putf (k0 := 2) (ci := 10) pc hd (by rw [hM]; exact rfl) hk (by decide) (fun _ => ⟨hN, by rw [hM]; rfl⟩) rfl k
theorem pf_4_9 {X : pmX} {d : Nat} {M : pmM} {ls st : List Value} {T : pmT} {v : pmV} {P : Option Value → pmT → pmV → Prop} {pc : Nat} {a x : Nat} (hM : M.1 = 4) (hd : decode M.2.2.1 pc = .ok (.putfield 9, 3)) (hk : pmKind T a = 4) (hx : 32 ≤ x) (hN : M.2.1.name = "<init>" := by rfl) (k : EvP X d M (pc + 3) ls st T (uR v a 0 (some x)) P) : EvP X d M pc ls (.ref x :: .ref a :: st) T v P :=
  ev_putf (k0 := 0) (ci := 4) pc hd (by rw [hM]; exact rfl) hk (by decide) (fun _ => ⟨hN, by rw [hM]; rfl⟩) (if_pos hx) k
theorem pf_4_15 {X : pmX} {d : Nat} {M : pmM} {ls st : List Value} {T : pmT} {v : pmV} {P : Option Value → pmT → pmV → Prop} {pc : Nat} {a x : Nat} (hM : M.1 = 4) (hd : decode M.2.2.1 pc = .ok (.putfield 15, 3)) (hk : pmKind T a = 4) (hx : 32 ≤ x) (hN : M.2.1.name = "<init>" := by rfl) (k : EvP X d M (pc + 3) ls st T (uR v a 2 (some x)) P) : EvP X d M pc ls (.ref x :: .ref a :: st) T v P :=
  ev_putf (k0 := 2) (ci := 4) pc hd (by rw [hM]; exact rfl) hk (by decide) (fun _ => ⟨hN, by rw [hM]; rfl⟩) (if_pos hx) k
theorem pf_4_18 {X : pmX} {d : Nat} {M : pmM} {ls st : List Value} {T : pmT} {v : pmV} {P : Option Value → pmT → pmV → Prop} {pc : Nat} {a x : Nat} (hM : M.1 = 4) (hd : decode M.2.2.1 pc = .ok (.putfield 18, 3)) (hk : pmKind T a = 4) (hx : 32 ≤ x) (hN : M.2.1.name = "<init>" := by rfl) (k : EvP X d M (pc + 3) ls st T (uR v a 3 (some x)) P) : EvP X d M pc ls (.ref x :: .ref a :: st) T v P :=
  ev_putf (k0 := 3) (ci := 4) pc hd (by rw [hM]; exact rfl) hk (by decide) (fun _ => ⟨hN, by rw [hM]; rfl⟩) (if_pos hx) k
theorem pf_4_21 {X : pmX} {d : Nat} {M : pmM} {ls st : List Value} {T : pmT} {v : pmV} {P : Option Value → pmT → pmV → Prop} {pc : Nat} {a x : Nat} (hM : M.1 = 4) (hd : decode M.2.2.1 pc = .ok (.putfield 21, 3)) (hk : pmKind T a = 4) (hx : 32 ≤ x) (hN : M.2.1.name = "<init>" := by rfl) (k : EvP X d M (pc + 3) ls st T (uR v a 4 (some x)) P) : EvP X d M pc ls (.ref x :: .ref a :: st) T v P :=
  ev_putf (k0 := 4) (ci := 4) pc hd (by rw [hM]; exact rfl) hk (by decide) (fun _ => ⟨hN, by rw [hM]; rfl⟩) (if_pos hx) k
theorem pf_4_27 {X : pmX} {d : Nat} {M : pmM} {ls st : List Value} {T : pmT} {v : pmV} {P : Option Value → pmT → pmV → Prop} {pc : Nat} {a x : Nat} (hM : M.1 = 4) (hd : decode M.2.2.1 pc = .ok (.putfield 27, 3)) (hk : pmKind T a = 4) (hx : 32 ≤ x) (k : EvP X d M (pc + 3) ls st T (uR v a 6 (some x)) P) : EvP X d M pc ls (.ref x :: .ref a :: st) T v P :=
  ev_putf (k0 := 6) (ci := 4) pc hd (by rw [hM]; exact rfl) hk (by decide) (fun q => by cases q) (if_pos hx) k
theorem pf_4_31 {X : pmX} {d : Nat} {M : pmM} {ls st : List Value} {T : pmT} {v : pmV} {P : Option Value → pmT → pmV → Prop} {pc : Nat} {a : Nat} {x : Int32} (hM : M.1 = 4) (hd : decode M.2.2.1 pc = .ok (.putfield 31, 3)) (hk : pmKind T a = 4) (k : EvP X d M (pc + 3) ls st T (uI v a 1 x) P) : EvP X d M pc ls (.int x :: .ref a :: st) T v P :=
  ev_putf (k0 := 1) (ci := 4) pc hd (by rw [hM]; exact rfl) hk (by decide) (fun q => by cases q) rfl k
theorem pf_4_52 {X : pmX} {d : Nat} {M : pmM} {ls st : List Value} {T : pmT} {v : pmV} {P : Option Value → pmT → pmV → Prop} {pc : Nat} {a : Nat} {x : Int32} (hM : M.1 = 4) (hd : decode M.2.2.1 pc = .ok (.putfield 52, 3)) (hk : pmKind T a = 4) (k : EvP X d M (pc + 3) ls st T (uI v a 7 x) P) : EvP X d M pc ls (.int x :: .ref a :: st) T v P :=
  ev_putf (k0 := 7) (ci := 4) pc hd (by rw [hM]; exact rfl) hk (by decide) (fun q => by cases q) rfl k
theorem pf_4_55 {X : pmX} {d : Nat} {M : pmM} {ls st : List Value} {T : pmT} {v : pmV} {P : Option Value → pmT → pmV → Prop} {pc : Nat} {a : Nat} {x : Int32} (hM : M.1 = 4) (hd : decode M.2.2.1 pc = .ok (.putfield 55, 3)) (hk : pmKind T a = 4) (k : EvP X d M (pc + 3) ls st T (uI v a 5 x) P) : EvP X d M pc ls (.int x :: .ref a :: st) T v P :=
  ev_putf (k0 := 5) (ci := 4) pc hd (by rw [hM]; exact rfl) hk (by decide) (fun q => by cases q) rfl k
theorem pf_5_9 {X : pmX} {d : Nat} {M : pmM} {ls st : List Value} {T : pmT} {v : pmV} {P : Option Value → pmT → pmV → Prop} {pc : Nat} {a x : Nat} (hM : M.1 = 5) (hd : decode M.2.2.1 pc = .ok (.putfield 9, 3)) (hk : pmKind T a = 5) (hx : 32 ≤ x) (hN : M.2.1.name = "<init>" := by rfl) (k : EvP X d M (pc + 3) ls st T (uR v a 0 (some x)) P) : EvP X d M pc ls (.ref x :: .ref a :: st) T v P :=
  ev_putf (k0 := 0) (ci := 5) pc hd (by rw [hM]; exact rfl) hk (by decide) (fun _ => ⟨hN, by rw [hM]; rfl⟩) (if_pos hx) k
theorem pf_5_15 {X : pmX} {d : Nat} {M : pmM} {ls st : List Value} {T : pmT} {v : pmV} {P : Option Value → pmT → pmV → Prop} {pc : Nat} {a x : Nat} (hM : M.1 = 5) (hd : decode M.2.2.1 pc = .ok (.putfield 15, 3)) (hk : pmKind T a = 5) (hx : 32 ≤ x) (hN : M.2.1.name = "<init>" := by rfl) (k : EvP X d M (pc + 3) ls st T (uR v a 1 (some x)) P) : EvP X d M pc ls (.ref x :: .ref a :: st) T v P :=
  ev_putf (k0 := 1) (ci := 5) pc hd (by rw [hM]; exact rfl) hk (by decide) (fun _ => ⟨hN, by rw [hM]; rfl⟩) (if_pos hx) k
theorem pf_5_18 {X : pmX} {d : Nat} {M : pmM} {ls st : List Value} {T : pmT} {v : pmV} {P : Option Value → pmT → pmV → Prop} {pc : Nat} {a : Nat} {x : Int32} (hM : M.1 = 5) (hd : decode M.2.2.1 pc = .ok (.putfield 18, 3)) (hk : pmKind T a = 5) (k : EvP X d M (pc + 3) ls st T (uI v a 2 x) P) : EvP X d M pc ls (.int x :: .ref a :: st) T v P :=
  ev_putf (k0 := 2) (ci := 5) pc hd (by rw [hM]; exact rfl) hk (by decide) (fun q => by cases q) rfl k
theorem pf_5_22 {X : pmX} {d : Nat} {M : pmM} {ls st : List Value} {T : pmT} {v : pmV} {P : Option Value → pmT → pmV → Prop} {pc : Nat} {a : Nat} {x : Int32} (hM : M.1 = 5) (hd : decode M.2.2.1 pc = .ok (.putfield 22, 3)) (hk : pmKind T a = 5) (k : EvP X d M (pc + 3) ls st T (uI v a 3 x) P) : EvP X d M pc ls (.int x :: .ref a :: st) T v P :=
  ev_putf (k0 := 3) (ci := 5) pc hd (by rw [hM]; exact rfl) hk (by decide) (fun q => by cases q) rfl k
theorem pf_5_31 {X : pmX} {d : Nat} {M : pmM} {ls st : List Value} {T : pmT} {v : pmV} {P : Option Value → pmT → pmV → Prop} {pc : Nat} {a : Nat} {x : Int32} (hM : M.1 = 5) (hd : decode M.2.2.1 pc = .ok (.putfield 31, 3)) (hk : pmKind T a = 5) (k : EvP X d M (pc + 3) ls st T (uI v a 4 x) P) : EvP X d M pc ls (.int x :: .ref a :: st) T v P :=
  ev_putf (k0 := 4) (ci := 5) pc hd (by rw [hM]; exact rfl) hk (by decide) (fun q => by cases q) rfl k
theorem pf_5_34 {X : pmX} {d : Nat} {M : pmM} {ls st : List Value} {T : pmT} {v : pmV} {P : Option Value → pmT → pmV → Prop} {pc : Nat} {a : Nat} {x : Int32} (hM : M.1 = 5) (hd : decode M.2.2.1 pc = .ok (.putfield 34, 3)) (hk : pmKind T a = 5) (k : EvP X d M (pc + 3) ls st T (uI v a 5 x) P) : EvP X d M pc ls (.int x :: .ref a :: st) T v P :=
  ev_putf (k0 := 5) (ci := 5) pc hd (by rw [hM]; exact rfl) hk (by decide) (fun q => by cases q) rfl k
theorem pf_5_37 {X : pmX} {d : Nat} {M : pmM} {ls st : List Value} {T : pmT} {v : pmV} {P : Option Value → pmT → pmV → Prop} {pc : Nat} {a : Nat} {x : Int32} (hM : M.1 = 5) (hd : decode M.2.2.1 pc = .ok (.putfield 37, 3)) (hk : pmKind T a = 5) (k : EvP X d M (pc + 3) ls st T (uI v a 6 x) P) : EvP X d M pc ls (.int x :: .ref a :: st) T v P :=
  ev_putf (k0 := 6) (ci := 5) pc hd (by rw [hM]; exact rfl) hk (by decide) (fun q => by cases q) rfl k
theorem pf_6_9 {X : pmX} {d : Nat} {M : pmM} {ls st : List Value} {T : pmT} {v : pmV} {P : Option Value → pmT → pmV → Prop} {pc : Nat} {a : Nat} {x : Int32} (hM : M.1 = 6) (hd : decode M.2.2.1 pc = .ok (.putfield 9, 3)) (hk : pmKind T a = 6) (k : EvP X d M (pc + 3) ls st T (uI v a 0 x) P) : EvP X d M pc ls (.int x :: .ref a :: st) T v P :=
  ev_putf (k0 := 0) (ci := 6) pc hd (by rw [hM]; exact rfl) hk (by decide) (fun q => by cases q) rfl k
theorem pf_6_15 {X : pmX} {d : Nat} {M : pmM} {ls st : List Value} {T : pmT} {v : pmV} {P : Option Value → pmT → pmV → Prop} {pc : Nat} {a x : Nat} (hM : M.1 = 6) (hd : decode M.2.2.1 pc = .ok (.putfield 15, 3)) (hk : pmKind T a = 6) (hx : 32 ≤ x) (hN : M.2.1.name = "<init>" := by rfl) (k : EvP X d M (pc + 3) ls st T (uR v a 2 (some x)) P) : EvP X d M pc ls (.ref x :: .ref a :: st) T v P :=
  ev_putf (k0 := 2) (ci := 6) pc hd (by rw [hM]; exact rfl) hk (by decide) (fun _ => ⟨hN, by rw [hM]; rfl⟩) (if_pos hx) k
theorem pf_6_19 {X : pmX} {d : Nat} {M : pmM} {ls st : List Value} {T : pmT} {v : pmV} {P : Option Value → pmT → pmV → Prop} {pc : Nat} {a : Nat} {x : Int32} (hM : M.1 = 6) (hd : decode M.2.2.1 pc = .ok (.putfield 19, 3)) (hk : pmKind T a = 6) (k : EvP X d M (pc + 3) ls st T (uI v a 1 x) P) : EvP X d M pc ls (.int x :: .ref a :: st) T v P :=
  ev_putf (k0 := 1) (ci := 6) pc hd (by rw [hM]; exact rfl) hk (by decide) (fun q => by cases q) rfl k
theorem pf_9_9 {X : pmX} {d : Nat} {M : pmM} {ls st : List Value} {T : pmT} {v : pmV} {P : Option Value → pmT → pmV → Prop} {pc : Nat} {a x : Nat} (hM : M.1 = 9) (hd : decode M.2.2.1 pc = .ok (.putfield 9, 3)) (hk : pmKind T a = 9) (hx : 32 ≤ x) (hN : M.2.1.name = "<init>" := by rfl) (k : EvP X d M (pc + 3) ls st T (uR v a 0 (some x)) P) : EvP X d M pc ls (.ref x :: .ref a :: st) T v P :=
  ev_putf (k0 := 0) (ci := 9) pc hd (by rw [hM]; exact rfl) hk (by decide) (fun _ => ⟨hN, by rw [hM]; rfl⟩) (if_pos hx) k
theorem pf_9_15 {X : pmX} {d : Nat} {M : pmM} {ls st : List Value} {T : pmT} {v : pmV} {P : Option Value → pmT → pmV → Prop} {pc : Nat} {a x : Nat} (hM : M.1 = 9) (hd : decode M.2.2.1 pc = .ok (.putfield 15, 3)) (hk : pmKind T a = 9) (hx : 32 ≤ x) (hN : M.2.1.name = "<init>" := by rfl) (k : EvP X d M (pc + 3) ls st T (uR v a 1 (some x)) P) : EvP X d M pc ls (.ref x :: .ref a :: st) T v P :=
  ev_putf (k0 := 1) (ci := 9) pc hd (by rw [hM]; exact rfl) hk (by decide) (fun _ => ⟨hN, by rw [hM]; rfl⟩) (if_pos hx) k
theorem pf_9_18 {X : pmX} {d : Nat} {M : pmM} {ls st : List Value} {T : pmT} {v : pmV} {P : Option Value → pmT → pmV → Prop} {pc : Nat} {a x : Nat} (hM : M.1 = 9) (hd : decode M.2.2.1 pc = .ok (.putfield 18, 3)) (hk : pmKind T a = 9) (hx : 32 ≤ x) (hN : M.2.1.name = "<init>" := by rfl) (k : EvP X d M (pc + 3) ls st T (uR v a 2 (some x)) P) : EvP X d M pc ls (.ref x :: .ref a :: st) T v P :=
  ev_putf (k0 := 2) (ci := 9) pc hd (by rw [hM]; exact rfl) hk (by decide) (fun _ => ⟨hN, by rw [hM]; rfl⟩) (if_pos hx) k
theorem pf_11_11 {X : pmX} {d : Nat} {M : pmM} {ls st : List Value} {T : pmT} {v : pmV} {P : Option Value → pmT → pmV → Prop} {pc : Nat} {a x : Nat} (hM : M.1 = 11) (hd : decode M.2.2.1 pc = .ok (.putfield 11, 3)) (hk : pmKind T a = 11) (hx : 32 ≤ x) (hN : M.2.1.name = "<init>" := by rfl) (k : EvP X d M (pc + 3) ls st T (uR v a 0 (some x)) P) : EvP X d M pc ls (.ref x :: .ref a :: st) T v P :=
  ev_putf (k0 := 0) (ci := 11) pc hd (by rw [hM]; exact rfl) hk (by decide) (fun _ => ⟨hN, by rw [hM]; rfl⟩) (if_pos hx) k
theorem pf_11_18 {X : pmX} {d : Nat} {M : pmM} {ls st : List Value} {T : pmT} {v : pmV} {P : Option Value → pmT → pmV → Prop} {pc : Nat} {a x : Nat} (hM : M.1 = 11) (hd : decode M.2.2.1 pc = .ok (.putfield 18, 3)) (hk : pmKind T a = 11) (hx : 32 ≤ x) (hN : M.2.1.name = "<init>" := by rfl) (k : EvP X d M (pc + 3) ls st T (uR v a 2 (some x)) P) : EvP X d M pc ls (.ref x :: .ref a :: st) T v P :=
  ev_putf (k0 := 2) (ci := 11) pc hd (by rw [hM]; exact rfl) hk (by decide) (fun _ => ⟨hN, by rw [hM]; rfl⟩) (if_pos hx) k
theorem pf_11_22 {X : pmX} {d : Nat} {M : pmM} {ls st : List Value} {T : pmT} {v : pmV} {P : Option Value → pmT → pmV → Prop} {pc : Nat} {a x : Nat} (hM : M.1 = 11) (hd : decode M.2.2.1 pc = .ok (.putfield 22, 3)) (hk : pmKind T a = 11) (hx : 32 ≤ x) (hN : M.2.1.name = "<init>" := by rfl) (k : EvP X d M (pc + 3) ls st T (uR v a 3 (some x)) P) : EvP X d M pc ls (.ref x :: .ref a :: st) T v P :=
  ev_putf (k0 := 3) (ci := 11) pc hd (by rw [hM]; exact rfl) hk (by decide) (fun _ => ⟨hN, by rw [hM]; rfl⟩) (if_pos hx) k
theorem pf_11_27 {X : pmX} {d : Nat} {M : pmM} {ls st : List Value} {T : pmT} {v : pmV} {P : Option Value → pmT → pmV → Prop} {pc : Nat} {a x : Nat} (hM : M.1 = 11) (hd : decode M.2.2.1 pc = .ok (.putfield 27, 3)) (hk : pmKind T a = 11) (hx : 32 ≤ x) (hN : M.2.1.name = "<init>" := by rfl) (k : EvP X d M (pc + 3) ls st T (uR v a 5 (some x)) P) : EvP X d M pc ls (.ref x :: .ref a :: st) T v P :=
  ev_putf (k0 := 5) (ci := 11) pc hd (by rw [hM]; exact rfl) hk (by decide) (fun _ => ⟨hN, by rw [hM]; rfl⟩) (if_pos hx) k
theorem pf_11_34 {X : pmX} {d : Nat} {M : pmM} {ls st : List Value} {T : pmT} {v : pmV} {P : Option Value → pmT → pmV → Prop} {pc : Nat} {a x : Nat} (hM : M.1 = 11) (hd : decode M.2.2.1 pc = .ok (.putfield 34, 3)) (hk : pmKind T a = 11) (hx : 32 ≤ x) (hN : M.2.1.name = "<init>" := by rfl) (k : EvP X d M (pc + 3) ls st T (uR v a 7 (some x)) P) : EvP X d M pc ls (.ref x :: .ref a :: st) T v P :=
  ev_putf (k0 := 7) (ci := 11) pc hd (by rw [hM]; exact rfl) hk (by decide) (fun _ => ⟨hN, by rw [hM]; rfl⟩) (if_pos hx) k
theorem pf_11_40 {X : pmX} {d : Nat} {M : pmM} {ls st : List Value} {T : pmT} {v : pmV} {P : Option Value → pmT → pmV → Prop} {pc : Nat} {a x : Nat} (hM : M.1 = 11) (hd : decode M.2.2.1 pc = .ok (.putfield 40, 3)) (hk : pmKind T a = 11) (hx : 32 ≤ x) (hN : M.2.1.name = "<init>" := by rfl) (k : EvP X d M (pc + 3) ls st T (uR v a 8 (some x)) P) : EvP X d M pc ls (.ref x :: .ref a :: st) T v P :=
  ev_putf (k0 := 8) (ci := 11) pc hd (by rw [hM]; exact rfl) hk (by decide) (fun _ => ⟨hN, by rw [hM]; rfl⟩) (if_pos hx) k
theorem pf_11_47 {X : pmX} {d : Nat} {M : pmM} {ls st : List Value} {T : pmT} {v : pmV} {P : Option Value → pmT → pmV → Prop} {pc : Nat} {a x : Nat} (hM : M.1 = 11) (hd : decode M.2.2.1 pc = .ok (.putfield 47, 3)) (hk : pmKind T a = 11) (hx : 32 ≤ x) (hN : M.2.1.name = "<init>" := by rfl) (k : EvP X d M (pc + 3) ls st T (uR v a 9 (some x)) P) : EvP X d M pc ls (.ref x :: .ref a :: st) T v P :=
  ev_putf (k0 := 9) (ci := 11) pc hd (by rw [hM]; exact rfl) hk (by decide) (fun _ => ⟨hN, by rw [hM]; rfl⟩) (if_pos hx) k
theorem pf_11_51 {X : pmX} {d : Nat} {M : pmM} {ls st : List Value} {T : pmT} {v : pmV} {P : Option Value → pmT → pmV → Prop} {pc : Nat} {a x : Nat} (hM : M.1 = 11) (hd : decode M.2.2.1 pc = .ok (.putfield 51, 3)) (hk : pmKind T a = 11) (hx : 32 ≤ x) (hN : M.2.1.name = "<init>" := by rfl) (k : EvP X d M (pc + 3) ls st T (uR v a 10 (some x)) P) : EvP X d M pc ls (.ref x :: .ref a :: st) T v P :=
  ev_putf (k0 := 10) (ci := 11) pc hd (by rw [hM]; exact rfl) hk (by decide) (fun _ => ⟨hN, by rw [hM]; rfl⟩) (if_pos hx) k
theorem pf_11_67 {X : pmX} {d : Nat} {M : pmM} {ls st : List Value} {T : pmT} {v : pmV} {P : Option Value → pmT → pmV → Prop} {pc : Nat} {a : Nat} {x : Int32} (hM : M.1 = 11) (hd : decode M.2.2.1 pc = .ok (.putfield 67, 3)) (hk : pmKind T a = 4) (k : EvP X d M (pc + 3) ls st T (uI v a 1 x) P) : EvP X d M pc ls (.int x :: .ref a :: st) T v P :=
  ev_putf (k0 := 1) (ci := 4) pc hd (by rw [hM]; exact rfl) hk (by decide) (fun q => by cases q) rfl k
theorem pf_11_71 {X : pmX} {d : Nat} {M : pmM} {ls st : List Value} {T : pmT} {v : pmV} {P : Option Value → pmT → pmV → Prop} {pc : Nat} {a : Nat} {x : Int32} (hM : M.1 = 11) (hd : decode M.2.2.1 pc = .ok (.putfield 71, 3)) (hk : pmKind T a = 11) (k : EvP X d M (pc + 3) ls st T (uI v a 6 x) P) : EvP X d M pc ls (.int x :: .ref a :: st) T v P :=
  ev_putf (k0 := 6) (ci := 11) pc hd (by rw [hM]; exact rfl) hk (by decide) (fun q => by cases q) rfl k
theorem pf_11_78 {X : pmX} {d : Nat} {M : pmM} {ls st : List Value} {T : pmT} {v : pmV} {P : Option Value → pmT → pmV → Prop} {pc : Nat} {a : Nat} {x : Int32} (hM : M.1 = 11) (hd : decode M.2.2.1 pc = .ok (.putfield 78, 3)) (hk : pmKind T a = 11) (k : EvP X d M (pc + 3) ls st T (uI v a 1 x) P) : EvP X d M pc ls (.int x :: .ref a :: st) T v P :=
  ev_putf (k0 := 1) (ci := 11) pc hd (by rw [hM]; exact rfl) hk (by decide) (fun q => by cases q) rfl k
theorem pf_11_115 {X : pmX} {d : Nat} {M : pmM} {ls st : List Value} {T : pmT} {v : pmV} {P : Option Value → pmT → pmV → Prop} {pc : Nat} {a : Nat} {x : Int32} (hM : M.1 = 11) (hd : decode M.2.2.1 pc = .ok (.putfield 115, 3)) (hk : pmKind T a = 5) (k : EvP X d M (pc + 3) ls st T (uI v a 3 x) P) : EvP X d M pc ls (.int x :: .ref a :: st) T v P :=
  ev_putf (k0 := 3) (ci := 5) pc hd (by rw [hM]; exact rfl) hk (by decide) (fun q => by cases q) rfl k
theorem pf_11_122 {X : pmX} {d : Nat} {M : pmM} {ls st : List Value} {T : pmT} {v : pmV} {P : Option Value → pmT → pmV → Prop} {pc : Nat} {a : Nat} {x : Int32} (hM : M.1 = 11) (hd : decode M.2.2.1 pc = .ok (.putfield 122, 3)) (hk : pmKind T a = 5) (k : EvP X d M (pc + 3) ls st T (uI v a 4 x) P) : EvP X d M pc ls (.int x :: .ref a :: st) T v P :=
  ev_putf (k0 := 4) (ci := 5) pc hd (by rw [hM]; exact rfl) hk (by decide) (fun q => by cases q) rfl k
theorem pf_11_125 {X : pmX} {d : Nat} {M : pmM} {ls st : List Value} {T : pmT} {v : pmV} {P : Option Value → pmT → pmV → Prop} {pc : Nat} {a : Nat} {x : Int32} (hM : M.1 = 11) (hd : decode M.2.2.1 pc = .ok (.putfield 125, 3)) (hk : pmKind T a = 5) (k : EvP X d M (pc + 3) ls st T (uI v a 5 x) P) : EvP X d M pc ls (.int x :: .ref a :: st) T v P :=
  ev_putf (k0 := 5) (ci := 5) pc hd (by rw [hM]; exact rfl) hk (by decide) (fun q => by cases q) rfl k
theorem pf_11_137 {X : pmX} {d : Nat} {M : pmM} {ls st : List Value} {T : pmT} {v : pmV} {P : Option Value → pmT → pmV → Prop} {pc : Nat} {a : Nat} {x : Int32} (hM : M.1 = 11) (hd : decode M.2.2.1 pc = .ok (.putfield 137, 3)) (hk : pmKind T a = 5) (k : EvP X d M (pc + 3) ls st T (uI v a 2 x) P) : EvP X d M pc ls (.int x :: .ref a :: st) T v P :=
  ev_putf (k0 := 2) (ci := 5) pc hd (by rw [hM]; exact rfl) hk (by decide) (fun q => by cases q) rfl k
theorem pf_11_153 {X : pmX} {d : Nat} {M : pmM} {ls st : List Value} {T : pmT} {v : pmV} {P : Option Value → pmT → pmV → Prop} {pc : Nat} {a : Nat} {x : Int32} (hM : M.1 = 11) (hd : decode M.2.2.1 pc = .ok (.putfield 153, 3)) (hk : pmKind T a = 5) (k : EvP X d M (pc + 3) ls st T (uI v a 6 x) P) : EvP X d M pc ls (.int x :: .ref a :: st) T v P :=
  ev_putf (k0 := 6) (ci := 5) pc hd (by rw [hM]; exact rfl) hk (by decide) (fun q => by cases q) rfl k
theorem pf_11_211 {X : pmX} {d : Nat} {M : pmM} {ls st : List Value} {T : pmT} {v : pmV} {P : Option Value → pmT → pmV → Prop} {pc : Nat} {a : Nat} {x : Int32} (hM : M.1 = 11) (hd : decode M.2.2.1 pc = .ok (.putfield 211, 3)) (hk : pmKind T a = 1) (k : EvP X d M (pc + 3) ls st T (uI v a 7 x) P) : EvP X d M pc ls (.int x :: .ref a :: st) T v P :=
  ev_putf (k0 := 7) (ci := 1) pc hd (by rw [hM]; exact rfl) hk (by decide) (fun q => by cases q) rfl k
theorem pf_11_214 {X : pmX} {d : Nat} {M : pmM} {ls st : List Value} {T : pmT} {v : pmV} {P : Option Value → pmT → pmV → Prop} {pc : Nat} {a : Nat} {x : Int32} (hM : M.1 = 11) (hd : decode M.2.2.1 pc = .ok (.putfield 214, 3)) (hk : pmKind T a = 1) (k : EvP X d M (pc + 3) ls st T (uI v a 8 x) P) : EvP X d M pc ls (.int x :: .ref a :: st) T v P :=
  ev_putf (k0 := 8) (ci := 1) pc hd (by rw [hM]; exact rfl) hk (by decide) (fun q => by cases q) rfl k
theorem pf_11_217 {X : pmX} {d : Nat} {M : pmM} {ls st : List Value} {T : pmT} {v : pmV} {P : Option Value → pmT → pmV → Prop} {pc : Nat} {a : Nat} {x : Int32} (hM : M.1 = 11) (hd : decode M.2.2.1 pc = .ok (.putfield 217, 3)) (hk : pmKind T a = 1) (k : EvP X d M (pc + 3) ls st T (uI v a 6 x) P) : EvP X d M pc ls (.int x :: .ref a :: st) T v P :=
  ev_putf (k0 := 6) (ci := 1) pc hd (by rw [hM]; exact rfl) hk (by decide) (fun q => by cases q) rfl k
theorem pf_11_231 {X : pmX} {d : Nat} {M : pmM} {ls st : List Value} {T : pmT} {v : pmV} {P : Option Value → pmT → pmV → Prop} {pc : Nat} {a : Nat} {x : Int32} (hM : M.1 = 11) (hd : decode M.2.2.1 pc = .ok (.putfield 231, 3)) (hk : pmKind T a = 11) (hx : x = 0 ∨ x = 1) (k : EvP X d M (pc + 3) ls st T (uI v a 4 x) P) : EvP X d M pc ls (.int x :: .ref a :: st) T v P :=
  ev_putf (k0 := 4) (ci := 11) pc hd (by rw [hM]; exact rfl) hk (by decide) (fun q => by cases q) (if_pos hx) k
theorem pf_11_291 {X : pmX} {d : Nat} {M : pmM} {ls st : List Value} {T : pmT} {v : pmV} {P : Option Value → pmT → pmV → Prop} {pc : Nat} {a : Nat} {x : Int32} (hM : M.1 = 11) (hd : decode M.2.2.1 pc = .ok (.putfield 291, 3)) (hk : pmKind T a = 1) (hx : x = 0 ∨ x = 1) (k : EvP X d M (pc + 3) ls st T (uI v a 5 x) P) : EvP X d M pc ls (.int x :: .ref a :: st) T v P :=
  ev_putf (k0 := 5) (ci := 1) pc hd (by rw [hM]; exact rfl) hk (by decide) (fun q => by cases q) (if_pos hx) k
theorem pf_12_1 {X : pmX} {d : Nat} {M : pmM} {ls st : List Value} {T : pmT} {v : pmV} {P : Option Value → pmT → pmV → Prop} {pc : Nat} {a : Nat} {x : Int32} (hM : M.1 = 12) (hd : decode M.2.2.1 pc = .ok (.putfield 1, 3)) (hk : pmKind T a = 12) (k : EvP X d M (pc + 3) ls st T (uI v a 0 x) P) : EvP X d M pc ls (.int x :: .ref a :: st) T v P :=
  ev_putf (k0 := 0) (ci := 12) pc hd (by rw [hM]; exact rfl) hk (by decide) (fun q => by cases q) rfl k
theorem pf_12_11 {X : pmX} {d : Nat} {M : pmM} {ls st : List Value} {T : pmT} {v : pmV} {P : Option Value → pmT → pmV → Prop} {pc : Nat} {a x : Nat} (hM : M.1 = 12) (hd : decode M.2.2.1 pc = .ok (.putfield 11, 3)) (hk : pmKind T a = 12) (hx : 32 ≤ x) (hN : M.2.1.name = "<init>" := by rfl) (k : EvP X d M (pc + 3) ls st T (uR v a 5 (some x)) P) : EvP X d M pc ls (.ref x :: .ref a :: st) T v P :=
  ev_putf (k0 := 5) (ci := 12) pc hd (by rw [hM]; exact rfl) hk (by decide) (fun _ => ⟨hN, by rw [hM]; rfl⟩) (if_pos hx) k
theorem pf_12_15 {X : pmX} {d : Nat} {M : pmM} {ls st : List Value} {T : pmT} {v : pmV} {P : Option Value → pmT → pmV → Prop} {pc : Nat} {a x : Nat} (hM : M.1 = 12) (hd : decode M.2.2.1 pc = .ok (.putfield 15, 3)) (hk : pmKind T a = 12) (hx : 32 ≤ x) (hN : M.2.1.name = "<init>" := by rfl) (k : EvP X d M (pc + 3) ls st T (uR v a 6 (some x)) P) : EvP X d M pc ls (.ref x :: .ref a :: st) T v P :=
  ev_putf (k0 := 6) (ci := 12) pc hd (by rw [hM]; exact rfl) hk (by decide) (fun _ => ⟨hN, by rw [hM]; rfl⟩) (if_pos hx) k
theorem pf_12_18 {X : pmX} {d : Nat} {M : pmM} {ls st : List Value} {T : pmT} {v : pmV} {P : Option Value → pmT → pmV → Prop} {pc : Nat} {a x : Nat} (hM : M.1 = 12) (hd : decode M.2.2.1 pc = .ok (.putfield 18, 3)) (hk : pmKind T a = 12) (hx : 32 ≤ x) (hN : M.2.1.name = "<init>" := by rfl) (k : EvP X d M (pc + 3) ls st T (uR v a 7 (some x)) P) : EvP X d M pc ls (.ref x :: .ref a :: st) T v P :=
  ev_putf (k0 := 7) (ci := 12) pc hd (by rw [hM]; exact rfl) hk (by decide) (fun _ => ⟨hN, by rw [hM]; rfl⟩) (if_pos hx) k
theorem pf_12_28 {X : pmX} {d : Nat} {M : pmM} {ls st : List Value} {T : pmT} {v : pmV} {P : Option Value → pmT → pmV → Prop} {pc : Nat} {a : Nat} {x : Int32} (hM : M.1 = 12) (hd : decode M.2.2.1 pc = .ok (.putfield 28, 3)) (hk : pmKind T a = 12) (k : EvP X d M (pc + 3) ls st T (uI v a 1 x) P) : EvP X d M pc ls (.int x :: .ref a :: st) T v P :=
  ev_putf (k0 := 1) (ci := 12) pc hd (by rw [hM]; exact rfl) hk (by decide) (fun q => by cases q) rfl k
theorem pf_12_31 {X : pmX} {d : Nat} {M : pmM} {ls st : List Value} {T : pmT} {v : pmV} {P : Option Value → pmT → pmV → Prop} {pc : Nat} {a x : Nat} (hM : M.1 = 12) (hd : decode M.2.2.1 pc = .ok (.putfield 31, 3)) (hk : pmKind T a = 12) (hx : 32 ≤ x) (hN : M.2.1.name = "<init>" := by rfl) (k : EvP X d M (pc + 3) ls st T (uR v a 8 (some x)) P) : EvP X d M pc ls (.ref x :: .ref a :: st) T v P :=
  ev_putf (k0 := 8) (ci := 12) pc hd (by rw [hM]; exact rfl) hk (by decide) (fun _ => ⟨hN, by rw [hM]; rfl⟩) (if_pos hx) k
theorem pf_12_34 {X : pmX} {d : Nat} {M : pmM} {ls st : List Value} {T : pmT} {v : pmV} {P : Option Value → pmT → pmV → Prop} {pc : Nat} {a x : Nat} (hM : M.1 = 12) (hd : decode M.2.2.1 pc = .ok (.putfield 34, 3)) (hk : pmKind T a = 12) (hx : 32 ≤ x) (hN : M.2.1.name = "<init>" := by rfl) (k : EvP X d M (pc + 3) ls st T (uR v a 9 (some x)) P) : EvP X d M pc ls (.ref x :: .ref a :: st) T v P :=
  ev_putf (k0 := 9) (ci := 12) pc hd (by rw [hM]; exact rfl) hk (by decide) (fun _ => ⟨hN, by rw [hM]; rfl⟩) (if_pos hx) k
theorem pf_12_41 {X : pmX} {d : Nat} {M : pmM} {ls st : List Value} {T : pmT} {v : pmV} {P : Option Value → pmT → pmV → Prop} {pc : Nat} {a x : Nat} (hM : M.1 = 12) (hd : decode M.2.2.1 pc = .ok (.putfield 41, 3)) (hk : pmKind T a = 12) (hx : 32 ≤ x) (hN : M.2.1.name = "<init>" := by rfl) (k : EvP X d M (pc + 3) ls st T (uR v a 49 (some x)) P) : EvP X d M pc ls (.ref x :: .ref a :: st) T v P :=
  ev_putf (k0 := 49) (ci := 12) pc hd (by rw [hM]; exact rfl) hk (by decide) (fun _ => ⟨hN, by rw [hM]; rfl⟩) (if_pos hx) k
theorem pf_12_44 {X : pmX} {d : Nat} {M : pmM} {ls st : List Value} {T : pmT} {v : pmV} {P : Option Value → pmT → pmV → Prop} {pc : Nat} {a x : Nat} (hM : M.1 = 12) (hd : decode M.2.2.1 pc = .ok (.putfield 44, 3)) (hk : pmKind T a = 12) (hx : 32 ≤ x) (hN : M.2.1.name = "<init>" := by rfl) (k : EvP X d M (pc + 3) ls st T (uR v a 50 (some x)) P) : EvP X d M pc ls (.ref x :: .ref a :: st) T v P :=
  ev_putf (k0 := 50) (ci := 12) pc hd (by rw [hM]; exact rfl) hk (by decide) (fun _ => ⟨hN, by rw [hM]; rfl⟩) (if_pos hx) k
theorem pf_12_47 {X : pmX} {d : Nat} {M : pmM} {ls st : List Value} {T : pmT} {v : pmV} {P : Option Value → pmT → pmV → Prop} {pc : Nat} {a x : Nat} (hM : M.1 = 12) (hd : decode M.2.2.1 pc = .ok (.putfield 47, 3)) (hk : pmKind T a = 12) (hx : 32 ≤ x) (hN : M.2.1.name = "<init>" := by rfl) (k : EvP X d M (pc + 3) ls st T (uR v a 51 (some x)) P) : EvP X d M pc ls (.ref x :: .ref a :: st) T v P :=
  ev_putf (k0 := 51) (ci := 12) pc hd (by rw [hM]; exact rfl) hk (by decide) (fun _ => ⟨hN, by rw [hM]; rfl⟩) (if_pos hx) k
theorem pf_12_50 {X : pmX} {d : Nat} {M : pmM} {ls st : List Value} {T : pmT} {v : pmV} {P : Option Value → pmT → pmV → Prop} {pc : Nat} {a : Nat} {x : Int32} (hM : M.1 = 12) (hd : decode M.2.2.1 pc = .ok (.putfield 50, 3)) (hk : pmKind T a = 12) (k : EvP X d M (pc + 3) ls st T (uI v a 2 x) P) : EvP X d M pc ls (.int x :: .ref a :: st) T v P :=
  ev_putf (k0 := 2) (ci := 12) pc hd (by rw [hM]; exact rfl) hk (by decide) (fun q => by cases q) rfl k
theorem pf_12_59 {X : pmX} {d : Nat} {M : pmM} {ls st : List Value} {T : pmT} {v : pmV} {P : Option Value → pmT → pmV → Prop} {pc : Nat} {a : Nat} {x : Int32} (hM : M.1 = 12) (hd : decode M.2.2.1 pc = .ok (.putfield 59, 3)) (hk : pmKind T a = 12) (k : EvP X d M (pc + 3) ls st T (uI v a 3 x) P) : EvP X d M pc ls (.int x :: .ref a :: st) T v P :=
  ev_putf (k0 := 3) (ci := 12) pc hd (by rw [hM]; exact rfl) hk (by decide) (fun q => by cases q) rfl k
theorem pf_12_62 {X : pmX} {d : Nat} {M : pmM} {ls st : List Value} {T : pmT} {v : pmV} {P : Option Value → pmT → pmV → Prop} {pc : Nat} {a : Nat} {x : Int32} (hM : M.1 = 12) (hd : decode M.2.2.1 pc = .ok (.putfield 62, 3)) (hk : pmKind T a = 12) (k : EvP X d M (pc + 3) ls st T (uI v a 4 x) P) : EvP X d M pc ls (.int x :: .ref a :: st) T v P :=
  ev_putf (k0 := 4) (ci := 12) pc hd (by rw [hM]; exact rfl) hk (by decide) (fun q => by cases q) rfl k
theorem pf_12_83 {X : pmX} {d : Nat} {M : pmM} {ls st : List Value} {T : pmT} {v : pmV} {P : Option Value → pmT → pmV → Prop} {pc : Nat} {a : Nat} {x : Int32} (hM : M.1 = 12) (hd : decode M.2.2.1 pc = .ok (.putfield 83, 3)) (hk : pmKind T a = 12) (k : EvP X d M (pc + 3) ls st T (uI v a 10 x) P) : EvP X d M pc ls (.int x :: .ref a :: st) T v P :=
  ev_putf (k0 := 10) (ci := 12) pc hd (by rw [hM]; exact rfl) hk (by decide) (fun q => by cases q) rfl k
theorem pf_12_86 {X : pmX} {d : Nat} {M : pmM} {ls st : List Value} {T : pmT} {v : pmV} {P : Option Value → pmT → pmV → Prop} {pc : Nat} {a : Nat} {x : Int32} (hM : M.1 = 12) (hd : decode M.2.2.1 pc = .ok (.putfield 86, 3)) (hk : pmKind T a = 12) (k : EvP X d M (pc + 3) ls st T (uI v a 11 x) P) : EvP X d M pc ls (.int x :: .ref a :: st) T v P :=
  ev_putf (k0 := 11) (ci := 12) pc hd (by rw [hM]; exact rfl) hk (by decide) (fun q => by cases q) rfl k
theorem pf_12_89 {X : pmX} {d : Nat} {M : pmM} {ls st : List Value} {T : pmT} {v : pmV} {P : Option Value → pmT → pmV → Prop} {pc : Nat} {a : Nat} {x : Int32} (hM : M.1 = 12) (hd : decode M.2.2.1 pc = .ok (.putfield 89, 3)) (hk : pmKind T a = 12) (k : EvP X d M (pc + 3) ls st T (uI v a 12 x) P) : EvP X d M pc ls (.int x :: .ref a :: st) T v P :=
  ev_putf (k0 := 12) (ci := 12) pc hd (by rw [hM]; exact rfl) hk (by decide) (fun q => by cases q) rfl k
theorem pf_12_92 {X : pmX} {d : Nat} {M : pmM} {ls st : List Value} {T : pmT} {v : pmV} {P : Option Value → pmT → pmV → Prop} {pc : Nat} {a : Nat} {x : Int32} (hM : M.1 = 12) (hd : decode M.2.2.1 pc = .ok (.putfield 92, 3)) (hk : pmKind T a = 12) (k : EvP X d M (pc + 3) ls st T (uI v a 13 x) P) : EvP X d M pc ls (.int x :: .ref a :: st) T v P :=
  ev_putf (k0 := 13) (ci := 12) pc hd (by rw [hM]; exact rfl) hk (by decide) (fun q => by cases q) rfl k
theorem pf_12_95 {X : pmX} {d : Nat} {M : pmM} {ls st : List Value} {T : pmT} {v : pmV} {P : Option Value → pmT → pmV → Prop} {pc : Nat} {a : Nat} {x : Int32} (hM : M.1 = 12) (hd : decode M.2.2.1 pc = .ok (.putfield 95, 3)) (hk : pmKind T a = 12) (k : EvP X d M (pc + 3) ls st T (uI v a 14 x) P) : EvP X d M pc ls (.int x :: .ref a :: st) T v P :=
  ev_putf (k0 := 14) (ci := 12) pc hd (by rw [hM]; exact rfl) hk (by decide) (fun q => by cases q) rfl k
theorem pf_12_98 {X : pmX} {d : Nat} {M : pmM} {ls st : List Value} {T : pmT} {v : pmV} {P : Option Value → pmT → pmV → Prop} {pc : Nat} {a : Nat} {x : Int32} (hM : M.1 = 12) (hd : decode M.2.2.1 pc = .ok (.putfield 98, 3)) (hk : pmKind T a = 12) (k : EvP X d M (pc + 3) ls st T (uI v a 15 x) P) : EvP X d M pc ls (.int x :: .ref a :: st) T v P :=
  ev_putf (k0 := 15) (ci := 12) pc hd (by rw [hM]; exact rfl) hk (by decide) (fun q => by cases q) rfl k
theorem pf_12_101 {X : pmX} {d : Nat} {M : pmM} {ls st : List Value} {T : pmT} {v : pmV} {P : Option Value → pmT → pmV → Prop} {pc : Nat} {a : Nat} {x : Int32} (hM : M.1 = 12) (hd : decode M.2.2.1 pc = .ok (.putfield 101, 3)) (hk : pmKind T a = 12) (k : EvP X d M (pc + 3) ls st T (uI v a 16 x) P) : EvP X d M pc ls (.int x :: .ref a :: st) T v P :=
  ev_putf (k0 := 16) (ci := 12) pc hd (by rw [hM]; exact rfl) hk (by decide) (fun q => by cases q) rfl k
theorem pf_12_104 {X : pmX} {d : Nat} {M : pmM} {ls st : List Value} {T : pmT} {v : pmV} {P : Option Value → pmT → pmV → Prop} {pc : Nat} {a : Nat} {x : Int32} (hM : M.1 = 12) (hd : decode M.2.2.1 pc = .ok (.putfield 104, 3)) (hk : pmKind T a = 12) (k : EvP X d M (pc + 3) ls st T (uI v a 17 x) P) : EvP X d M pc ls (.int x :: .ref a :: st) T v P :=
  ev_putf (k0 := 17) (ci := 12) pc hd (by rw [hM]; exact rfl) hk (by decide) (fun q => by cases q) rfl k
theorem pf_12_107 {X : pmX} {d : Nat} {M : pmM} {ls st : List Value} {T : pmT} {v : pmV} {P : Option Value → pmT → pmV → Prop} {pc : Nat} {a : Nat} {x : Int32} (hM : M.1 = 12) (hd : decode M.2.2.1 pc = .ok (.putfield 107, 3)) (hk : pmKind T a = 12) (k : EvP X d M (pc + 3) ls st T (uI v a 18 x) P) : EvP X d M pc ls (.int x :: .ref a :: st) T v P :=
  ev_putf (k0 := 18) (ci := 12) pc hd (by rw [hM]; exact rfl) hk (by decide) (fun q => by cases q) rfl k
theorem pf_12_110 {X : pmX} {d : Nat} {M : pmM} {ls st : List Value} {T : pmT} {v : pmV} {P : Option Value → pmT → pmV → Prop} {pc : Nat} {a : Nat} {x : Int32} (hM : M.1 = 12) (hd : decode M.2.2.1 pc = .ok (.putfield 110, 3)) (hk : pmKind T a = 12) (k : EvP X d M (pc + 3) ls st T (uI v a 19 x) P) : EvP X d M pc ls (.int x :: .ref a :: st) T v P :=
  ev_putf (k0 := 19) (ci := 12) pc hd (by rw [hM]; exact rfl) hk (by decide) (fun q => by cases q) rfl k
theorem pf_12_113 {X : pmX} {d : Nat} {M : pmM} {ls st : List Value} {T : pmT} {v : pmV} {P : Option Value → pmT → pmV → Prop} {pc : Nat} {a x : Nat} (hM : M.1 = 12) (hd : decode M.2.2.1 pc = .ok (.putfield 113, 3)) (hk : pmKind T a = 12) (hx : 32 ≤ x) (hN : M.2.1.name = "<init>" := by rfl) (k : EvP X d M (pc + 3) ls st T (uR v a 20 (some x)) P) : EvP X d M pc ls (.ref x :: .ref a :: st) T v P :=
  ev_putf (k0 := 20) (ci := 12) pc hd (by rw [hM]; exact rfl) hk (by decide) (fun _ => ⟨hN, by rw [hM]; rfl⟩) (if_pos hx) k
theorem pf_12_116 {X : pmX} {d : Nat} {M : pmM} {ls st : List Value} {T : pmT} {v : pmV} {P : Option Value → pmT → pmV → Prop} {pc : Nat} {a x : Nat} (hM : M.1 = 12) (hd : decode M.2.2.1 pc = .ok (.putfield 116, 3)) (hk : pmKind T a = 12) (hx : 32 ≤ x) (hN : M.2.1.name = "<init>" := by rfl) (k : EvP X d M (pc + 3) ls st T (uR v a 21 (some x)) P) : EvP X d M pc ls (.ref x :: .ref a :: st) T v P :=
  ev_putf (k0 := 21) (ci := 12) pc hd (by rw [hM]; exact rfl) hk (by decide) (fun _ => ⟨hN, by rw [hM]; rfl⟩) (if_pos hx) k
theorem pf_12_119 {X : pmX} {d : Nat} {M : pmM} {ls st : List Value} {T : pmT} {v : pmV} {P : Option Value → pmT → pmV → Prop} {pc : Nat} {a x : Nat} (hM : M.1 = 12) (hd : decode M.2.2.1 pc = .ok (.putfield 119, 3)) (hk : pmKind T a = 12) (hx : 32 ≤ x) (hN : M.2.1.name = "<init>" := by rfl) (k : EvP X d M (pc + 3) ls st T (uR v a 22 (some x)) P) : EvP X d M pc ls (.ref x :: .ref a :: st) T v P :=
  ev_putf (k0 := 22) (ci := 12) pc hd (by rw [hM]; exact rfl) hk (by decide) (fun _ => ⟨hN, by rw [hM]; rfl⟩) (if_pos hx) k
theorem pf_12_122 {X : pmX} {d : Nat} {M : pmM} {ls st : List Value} {T : pmT} {v : pmV} {P : Option Value → pmT → pmV → Prop} {pc : Nat} {a x : Nat} (hM : M.1 = 12) (hd : decode M.2.2.1 pc = .ok (.putfield 122, 3)) (hk : pmKind T a = 12) (hx : 32 ≤ x) (hN : M.2.1.name = "<init>" := by rfl) (k : EvP X d M (pc + 3) ls st T (uR v a 23 (some x)) P) : EvP X d M pc ls (.ref x :: .ref a :: st) T v P :=
  ev_putf (k0 := 23) (ci := 12) pc hd (by rw [hM]; exact rfl) hk (by decide) (fun _ => ⟨hN, by rw [hM]; rfl⟩) (if_pos hx) k
theorem pf_12_125 {X : pmX} {d : Nat} {M : pmM} {ls st : List Value} {T : pmT} {v : pmV} {P : Option Value → pmT → pmV → Prop} {pc : Nat} {a x : Nat} (hM : M.1 = 12) (hd : decode M.2.2.1 pc = .ok (.putfield 125, 3)) (hk : pmKind T a = 12) (hx : 32 ≤ x) (hN : M.2.1.name = "<init>" := by rfl) (k : EvP X d M (pc + 3) ls st T (uR v a 24 (some x)) P) : EvP X d M pc ls (.ref x :: .ref a :: st) T v P :=
  ev_putf (k0 := 24) (ci := 12) pc hd (by rw [hM]; exact rfl) hk (by decide) (fun _ => ⟨hN, by rw [hM]; rfl⟩) (if_pos hx) k
theorem pf_12_128 {X : pmX} {d : Nat} {M : pmM} {ls st : List Value} {T : pmT} {v : pmV} {P : Option Value → pmT → pmV → Prop} {pc : Nat} {a x : Nat} (hM : M.1 = 12) (hd : decode M.2.2.1 pc = .ok (.putfield 128, 3)) (hk : pmKind T a = 12) (hx : 32 ≤ x) (hN : M.2.1.name = "<init>" := by rfl) (k : EvP X d M (pc + 3) ls st T (uR v a 25 (some x)) P) : EvP X d M pc ls (.ref x :: .ref a :: st) T v P :=
  ev_putf (k0 := 25) (ci := 12) pc hd (by rw [hM]; exact rfl) hk (by decide) (fun _ => ⟨hN, by rw [hM]; rfl⟩) (if_pos hx) k
theorem pf_12_131 {X : pmX} {d : Nat} {M : pmM} {ls st : List Value} {T : pmT} {v : pmV} {P : Option Value → pmT → pmV → Prop} {pc : Nat} {a x : Nat} (hM : M.1 = 12) (hd : decode M.2.2.1 pc = .ok (.putfield 131, 3)) (hk : pmKind T a = 12) (hx : 32 ≤ x) (hN : M.2.1.name = "<init>" := by rfl) (k : EvP X d M (pc + 3) ls st T (uR v a 26 (some x)) P) : EvP X d M pc ls (.ref x :: .ref a :: st) T v P :=
  ev_putf (k0 := 26) (ci := 12) pc hd (by rw [hM]; exact rfl) hk (by decide) (fun _ => ⟨hN, by rw [hM]; rfl⟩) (if_pos hx) k
theorem pf_12_134 {X : pmX} {d : Nat} {M : pmM} {ls st : List Value} {T : pmT} {v : pmV} {P : Option Value → pmT → pmV → Prop} {pc : Nat} {a x : Nat} (hM : M.1 = 12) (hd : decode M.2.2.1 pc = .ok (.putfield 134, 3)) (hk : pmKind T a = 12) (hx : 32 ≤ x) (hN : M.2.1.name = "<init>" := by rfl) (k : EvP X d M (pc + 3) ls st T (uR v a 27 (some x)) P) : EvP X d M pc ls (.ref x :: .ref a :: st) T v P :=
  ev_putf (k0 := 27) (ci := 12) pc hd (by rw [hM]; exact rfl) hk (by decide) (fun _ => ⟨hN, by rw [hM]; rfl⟩) (if_pos hx) k
theorem pf_12_137 {X : pmX} {d : Nat} {M : pmM} {ls st : List Value} {T : pmT} {v : pmV} {P : Option Value → pmT → pmV → Prop} {pc : Nat} {a x : Nat} (hM : M.1 = 12) (hd : decode M.2.2.1 pc = .ok (.putfield 137, 3)) (hk : pmKind T a = 12) (hx : 32 ≤ x) (hN : M.2.1.name = "<init>" := by rfl) (k : EvP X d M (pc + 3) ls st T (uR v a 28 (some x)) P) : EvP X d M pc ls (.ref x :: .ref a :: st) T v P :=
  ev_putf (k0 := 28) (ci := 12) pc hd (by rw [hM]; exact rfl) hk (by decide) (fun _ => ⟨hN, by rw [hM]; rfl⟩) (if_pos hx) k
theorem pf_12_140 {X : pmX} {d : Nat} {M : pmM} {ls st : List Value} {T : pmT} {v : pmV} {P : Option Value → pmT → pmV → Prop} {pc : Nat} {a x : Nat} (hM : M.1 = 12) (hd : decode M.2.2.1 pc = .ok (.putfield 140, 3)) (hk : pmKind T a = 12) (hx : 32 ≤ x) (hN : M.2.1.name = "<init>" := by rfl) (k : EvP X d M (pc + 3) ls st T (uR v a 29 (some x)) P) : EvP X d M pc ls (.ref x :: .ref a :: st) T v P :=
  ev_putf (k0 := 29) (ci := 12) pc hd (by rw [hM]; exact rfl) hk (by decide) (fun _ => ⟨hN, by rw [hM]; rfl⟩) (if_pos hx) k
theorem pf_12_143 {X : pmX} {d : Nat} {M : pmM} {ls st : List Value} {T : pmT} {v : pmV} {P : Option Value → pmT → pmV → Prop} {pc : Nat} {a x : Nat} (hM : M.1 = 12) (hd : decode M.2.2.1 pc = .ok (.putfield 143, 3)) (hk : pmKind T a = 12) (hx : 32 ≤ x) (hN : M.2.1.name = "<init>" := by rfl) (k : EvP X d M (pc + 3) ls st T (uR v a 30 (some x)) P) : EvP X d M pc ls (.ref x :: .ref a :: st) T v P :=
  ev_putf (k0 := 30) (ci := 12) pc hd (by rw [hM]; exact rfl) hk (by decide) (fun _ => ⟨hN, by rw [hM]; rfl⟩) (if_pos hx) k
theorem pf_12_146 {X : pmX} {d : Nat} {M : pmM} {ls st : List Value} {T : pmT} {v : pmV} {P : Option Value → pmT → pmV → Prop} {pc : Nat} {a x : Nat} (hM : M.1 = 12) (hd : decode M.2.2.1 pc = .ok (.putfield 146, 3)) (hk : pmKind T a = 12) (hx : 32 ≤ x) (hN : M.2.1.name = "<init>" := by rfl) (k : EvP X d M (pc + 3) ls st T (uR v a 31 (some x)) P) : EvP X d M pc ls (.ref x :: .ref a :: st) T v P :=
  ev_putf (k0 := 31) (ci := 12) pc hd (by rw [hM]; exact rfl) hk (by decide) (fun _ => ⟨hN, by rw [hM]; rfl⟩) (if_pos hx) k
theorem pf_12_149 {X : pmX} {d : Nat} {M : pmM} {ls st : List Value} {T : pmT} {v : pmV} {P : Option Value → pmT → pmV → Prop} {pc : Nat} {a : Nat} {x : Int32} (hM : M.1 = 12) (hd : decode M.2.2.1 pc = .ok (.putfield 149, 3)) (hk : pmKind T a = 12) (k : EvP X d M (pc + 3) ls st T (uI v a 32 x) P) : EvP X d M pc ls (.int x :: .ref a :: st) T v P :=
  ev_putf (k0 := 32) (ci := 12) pc hd (by rw [hM]; exact rfl) hk (by decide) (fun q => by cases q) rfl k
theorem pf_12_152 {X : pmX} {d : Nat} {M : pmM} {ls st : List Value} {T : pmT} {v : pmV} {P : Option Value → pmT → pmV → Prop} {pc : Nat} {a : Nat} {x : Int32} (hM : M.1 = 12) (hd : decode M.2.2.1 pc = .ok (.putfield 152, 3)) (hk : pmKind T a = 12) (k : EvP X d M (pc + 3) ls st T (uI v a 33 x) P) : EvP X d M pc ls (.int x :: .ref a :: st) T v P :=
  ev_putf (k0 := 33) (ci := 12) pc hd (by rw [hM]; exact rfl) hk (by decide) (fun q => by cases q) rfl k
theorem pf_12_155 {X : pmX} {d : Nat} {M : pmM} {ls st : List Value} {T : pmT} {v : pmV} {P : Option Value → pmT → pmV → Prop} {pc : Nat} {a : Nat} {x : Int32} (hM : M.1 = 12) (hd : decode M.2.2.1 pc = .ok (.putfield 155, 3)) (hk : pmKind T a = 12) (k : EvP X d M (pc + 3) ls st T (uI v a 34 x) P) : EvP X d M pc ls (.int x :: .ref a :: st) T v P :=
  ev_putf (k0 := 34) (ci := 12) pc hd (by rw [hM]; exact rfl) hk (by decide) (fun q => by cases q) rfl k
theorem pf_12_158 {X : pmX} {d : Nat} {M : pmM} {ls st : List Value} {T : pmT} {v : pmV} {P : Option Value → pmT → pmV → Prop} {pc : Nat} {a : Nat} {x : Int32} (hM : M.1 = 12) (hd : decode M.2.2.1 pc = .ok (.putfield 158, 3)) (hk : pmKind T a = 12) (k : EvP X d M (pc + 3) ls st T (uI v a 35 x) P) : EvP X d M pc ls (.int x :: .ref a :: st) T v P :=
  ev_putf (k0 := 35) (ci := 12) pc hd (by rw [hM]; exact rfl) hk (by decide) (fun q => by cases q) rfl k
theorem pf_12_161 {X : pmX} {d : Nat} {M : pmM} {ls st : List Value} {T : pmT} {v : pmV} {P : Option Value → pmT → pmV → Prop} {pc : Nat} {a : Nat} {x : Int32} (hM : M.1 = 12) (hd : decode M.2.2.1 pc = .ok (.putfield 161, 3)) (hk : pmKind T a = 12) (k : EvP X d M (pc + 3) ls st T (uI v a 36 x) P) : EvP X d M pc ls (.int x :: .ref a :: st) T v P :=
  ev_putf (k0 := 36) (ci := 12) pc hd (by rw [hM]; exact rfl) hk (by decide) (fun q => by cases q) rfl k
theorem pf_12_164 {X : pmX} {d : Nat} {M : pmM} {ls st : List Value} {T : pmT} {v : pmV} {P : Option Value → pmT → pmV → Prop} {pc : Nat} {a : Nat} {x : Int32} (hM : M.1 = 12) (hd : decode M.2.2.1 pc = .ok (.putfield 164, 3)) (hk : pmKind T a = 12) (k : EvP X d M (pc + 3) ls st T (uI v a 37 x) P) : EvP X d M pc ls (.int x :: .ref a :: st) T v P :=
  ev_putf (k0 := 37) (ci := 12) pc hd (by rw [hM]; exact rfl) hk (by decide) (fun q => by cases q) rfl k
theorem pf_12_167 {X : pmX} {d : Nat} {M : pmM} {ls st : List Value} {T : pmT} {v : pmV} {P : Option Value → pmT → pmV → Prop} {pc : Nat} {a : Nat} {x : Int32} (hM : M.1 = 12) (hd : decode M.2.2.1 pc = .ok (.putfield 167, 3)) (hk : pmKind T a = 12) (k : EvP X d M (pc + 3) ls st T (uI v a 38 x) P) : EvP X d M pc ls (.int x :: .ref a :: st) T v P :=
  ev_putf (k0 := 38) (ci := 12) pc hd (by rw [hM]; exact rfl) hk (by decide) (fun q => by cases q) rfl k
theorem pf_12_170 {X : pmX} {d : Nat} {M : pmM} {ls st : List Value} {T : pmT} {v : pmV} {P : Option Value → pmT → pmV → Prop} {pc : Nat} {a : Nat} {x : Int32} (hM : M.1 = 12) (hd : decode M.2.2.1 pc = .ok (.putfield 170, 3)) (hk : pmKind T a = 12) (k : EvP X d M (pc + 3) ls st T (uI v a 39 x) P) : EvP X d M pc ls (.int x :: .ref a :: st) T v P :=
  ev_putf (k0 := 39) (ci := 12) pc hd (by rw [hM]; exact rfl) hk (by decide) (fun q => by cases q) rfl k
theorem pf_12_173 {X : pmX} {d : Nat} {M : pmM} {ls st : List Value} {T : pmT} {v : pmV} {P : Option Value → pmT → pmV → Prop} {pc : Nat} {a : Nat} {x : Int64} (hM : M.1 = 12) (hd : decode M.2.2.1 pc = .ok (.putfield 173, 3)) (hk : pmKind T a = 12) (k : EvP X d M (pc + 3) ls st T (uL v a 40 x) P) : EvP X d M pc ls (.long x :: .ref a :: st) T v P :=
  ev_putf (k0 := 40) (ci := 12) pc hd (by rw [hM]; exact rfl) hk (by decide) (fun q => by cases q) rfl k
theorem pf_12_177 {X : pmX} {d : Nat} {M : pmM} {ls st : List Value} {T : pmT} {v : pmV} {P : Option Value → pmT → pmV → Prop} {pc : Nat} {a : Nat} {x : Int32} (hM : M.1 = 12) (hd : decode M.2.2.1 pc = .ok (.putfield 177, 3)) (hk : pmKind T a = 12) (hx : x = 0 ∨ x = 1) (k : EvP X d M (pc + 3) ls st T (uI v a 41 x) P) : EvP X d M pc ls (.int x :: .ref a :: st) T v P :=
  ev_putf (k0 := 41) (ci := 12) pc hd (by rw [hM]; exact rfl) hk (by decide) (fun q => by cases q) (if_pos hx) k
theorem pf_12_181 {X : pmX} {d : Nat} {M : pmM} {ls st : List Value} {T : pmT} {v : pmV} {P : Option Value → pmT → pmV → Prop} {pc : Nat} {a : Nat} {x : Int32} (hM : M.1 = 12) (hd : decode M.2.2.1 pc = .ok (.putfield 181, 3)) (hk : pmKind T a = 12) (k : EvP X d M (pc + 3) ls st T (uI v a 42 x) P) : EvP X d M pc ls (.int x :: .ref a :: st) T v P :=
  ev_putf (k0 := 42) (ci := 12) pc hd (by rw [hM]; exact rfl) hk (by decide) (fun q => by cases q) rfl k
theorem pf_12_184 {X : pmX} {d : Nat} {M : pmM} {ls st : List Value} {T : pmT} {v : pmV} {P : Option Value → pmT → pmV → Prop} {pc : Nat} {a : Nat} {x : Int32} (hM : M.1 = 12) (hd : decode M.2.2.1 pc = .ok (.putfield 184, 3)) (hk : pmKind T a = 12) (k : EvP X d M (pc + 3) ls st T (uI v a 43 x) P) : EvP X d M pc ls (.int x :: .ref a :: st) T v P :=
  ev_putf (k0 := 43) (ci := 12) pc hd (by rw [hM]; exact rfl) hk (by decide) (fun q => by cases q) rfl k
theorem pf_12_187 {X : pmX} {d : Nat} {M : pmM} {ls st : List Value} {T : pmT} {v : pmV} {P : Option Value → pmT → pmV → Prop} {pc : Nat} {a : Nat} {x : Int32} (hM : M.1 = 12) (hd : decode M.2.2.1 pc = .ok (.putfield 187, 3)) (hk : pmKind T a = 12) (k : EvP X d M (pc + 3) ls st T (uI v a 44 x) P) : EvP X d M pc ls (.int x :: .ref a :: st) T v P :=
  ev_putf (k0 := 44) (ci := 12) pc hd (by rw [hM]; exact rfl) hk (by decide) (fun q => by cases q) rfl k
theorem pf_12_190 {X : pmX} {d : Nat} {M : pmM} {ls st : List Value} {T : pmT} {v : pmV} {P : Option Value → pmT → pmV → Prop} {pc : Nat} {a : Nat} {x : Int32} (hM : M.1 = 12) (hd : decode M.2.2.1 pc = .ok (.putfield 190, 3)) (hk : pmKind T a = 12) (k : EvP X d M (pc + 3) ls st T (uI v a 45 x) P) : EvP X d M pc ls (.int x :: .ref a :: st) T v P :=
  ev_putf (k0 := 45) (ci := 12) pc hd (by rw [hM]; exact rfl) hk (by decide) (fun q => by cases q) rfl k
theorem pf_12_193 {X : pmX} {d : Nat} {M : pmM} {ls st : List Value} {T : pmT} {v : pmV} {P : Option Value → pmT → pmV → Prop} {pc : Nat} {a : Nat} {x : Int32} (hM : M.1 = 12) (hd : decode M.2.2.1 pc = .ok (.putfield 193, 3)) (hk : pmKind T a = 12) (k : EvP X d M (pc + 3) ls st T (uI v a 46 x) P) : EvP X d M pc ls (.int x :: .ref a :: st) T v P :=
  ev_putf (k0 := 46) (ci := 12) pc hd (by rw [hM]; exact rfl) hk (by decide) (fun q => by cases q) rfl k
theorem pf_12_196 {X : pmX} {d : Nat} {M : pmM} {ls st : List Value} {T : pmT} {v : pmV} {P : Option Value → pmT → pmV → Prop} {pc : Nat} {a x : Nat} (hM : M.1 = 12) (hd : decode M.2.2.1 pc = .ok (.putfield 196, 3)) (hk : pmKind T a = 12) (hx : 32 ≤ x) (hN : M.2.1.name = "<init>" := by rfl) (k : EvP X d M (pc + 3) ls st T (uR v a 47 (some x)) P) : EvP X d M pc ls (.ref x :: .ref a :: st) T v P :=
  ev_putf (k0 := 47) (ci := 12) pc hd (by rw [hM]; exact rfl) hk (by decide) (fun _ => ⟨hN, by rw [hM]; rfl⟩) (if_pos hx) k
theorem pf_12_199 {X : pmX} {d : Nat} {M : pmM} {ls st : List Value} {T : pmT} {v : pmV} {P : Option Value → pmT → pmV → Prop} {pc : Nat} {a x : Nat} (hM : M.1 = 12) (hd : decode M.2.2.1 pc = .ok (.putfield 199, 3)) (hk : pmKind T a = 12) (hx : 32 ≤ x) (hN : M.2.1.name = "<init>" := by rfl) (k : EvP X d M (pc + 3) ls st T (uR v a 48 (some x)) P) : EvP X d M pc ls (.ref x :: .ref a :: st) T v P :=
  ev_putf (k0 := 48) (ci := 12) pc hd (by rw [hM]; exact rfl) hk (by decide) (fun _ => ⟨hN, by rw [hM]; rfl⟩) (if_pos hx) k
theorem pf_12_202 {X : pmX} {d : Nat} {M : pmM} {ls st : List Value} {T : pmT} {v : pmV} {P : Option Value → pmT → pmV → Prop} {pc : Nat} {a x : Nat} (hM : M.1 = 12) (hd : decode M.2.2.1 pc = .ok (.putfield 202, 3)) (hk : pmKind T a = 12) (hx : 32 ≤ x) (hN : M.2.1.name = "<init>" := by rfl) (k : EvP X d M (pc + 3) ls st T (uR v a 52 (some x)) P) : EvP X d M pc ls (.ref x :: .ref a :: st) T v P :=
  ev_putf (k0 := 52) (ci := 12) pc hd (by rw [hM]; exact rfl) hk (by decide) (fun _ => ⟨hN, by rw [hM]; rfl⟩) (if_pos hx) k
