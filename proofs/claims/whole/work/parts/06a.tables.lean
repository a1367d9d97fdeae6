theorem cls_0 : vc_cls 0 = 12 := rfl
theorem fld_0_0 : vc_fld 0 9 0 = some (some 1) := rfl
theorem fld_0_1 : vc_fld 0 9 1 = some (some 3) := rfl
theorem fld_0_2 : vc_fld 0 9 2 = some (some 5) := rfl
theorem fld_0_3 : vc_fld 0 9 3 = some (some 8) := rfl
theorem fld_0_4 : vc_fld 0 9 4 = some (some 11) := rfl
theorem fld_0_5 : vc_fld 0 9 5 = some (some 15) := rfl
theorem fld_0_6 : vc_fld 0 9 6 = some (some 20) := rfl
theorem fld_0_7 : vc_fld 0 9 7 = some (some 29) := rfl
theorem fld_0_8 : vc_fld 0 9 8 = some (some 38) := rfl
theorem fld_0_9 : vc_fld 0 9 9 = some (some 47) := rfl
theorem fld_0_10 : vc_fld 0 9 10 = some (some 51) := rfl
theorem fld_0_11 : vc_fld 0 9 11 = some (some 52) := rfl
theorem fld_0_12 : vc_fld 0 9 12 = some (some 54) := rfl
theorem fld_0_13 : vc_fld 0 9 13 = some (some 55) := rfl
theorem fld_0_14 : vc_fld 0 9 14 = some (some 56) := rfl
theorem fld_0_15 : vc_fld 0 9 15 = some none := rfl
theorem fld_0_16 : vc_fld 0 9 16 = some none := rfl
theorem fld_0_17 : vc_fld 0 9 17 = some none := rfl
theorem fld_0_18 : vc_fld 0 9 18 = some none := rfl
theorem cls_1 : vc_cls 1 = 10 := rfl
theorem fld_1_0 : vc_fld 1 7 0 = some (some 2) := rfl
theorem fld_1_1 : vc_fld 1 7 1 = some none := rfl
theorem arr_2 : vc_arr 2 = some (0, 39) := rfl
theorem cls_3 : vc_cls 3 = 10 := rfl
theorem fld_3_0 : vc_fld 3 7 0 = some (some 4) := rfl
theorem fld_3_1 : vc_fld 3 7 1 = some none := rfl
theorem arr_4 : vc_arr 4 = some (0, 19) := rfl
theorem cls_5 : vc_cls 5 = 6 := rfl
theorem fld_5_0 : vc_fld 5 3 0 = some (some 6) := rfl
theorem fld_5_1 : vc_fld 5 3 1 = some (some 7) := rfl
theorem fld_5_2 : vc_fld 5 3 2 = some none := rfl
theorem fld_5_3 : vc_fld 5 3 3 = some none := rfl
theorem arr_6 : vc_arr 6 = some (0, 8) := rfl
theorem arr_7 : vc_arr 7 = some (0, 24) := rfl
theorem cls_8 : vc_cls 8 = 3 := rfl
theorem fld_8_0 : vc_fld 8 0 0 = some (some 9) := rfl
theorem fld_8_1 : vc_fld 8 0 1 = some (some 10) := rfl
theorem fld_8_2 : vc_fld 8 0 2 = some none := rfl
theorem fld_8_3 : vc_fld 8 0 3 = some none := rfl
theorem arr_9 : vc_arr 9 = some (0, 16) := rfl
theorem arr_10 : vc_arr 10 = some (0, 16) := rfl
theorem cls_11 : vc_cls 11 = 4 := rfl
theorem fld_11_0 : vc_fld 11 1 0 = some (some 12) := rfl
theorem fld_11_1 : vc_fld 11 1 1 = some (some 13) := rfl
theorem fld_11_2 : vc_fld 11 1 2 = some (some 14) := rfl
theorem fld_11_3 : vc_fld 11 1 3 = some none := rfl
theorem arr_12 : vc_arr 12 = some (0, 9) := rfl
theorem arr_13 : vc_arr 13 = some (0, 9) := rfl
theorem arr_14 : vc_arr 14 = some (0, 9) := rfl
theorem cls_15 : vc_cls 15 = 7 := rfl
theorem fld_15_0 : vc_fld 15 4 0 = some (some 16) := rfl
theorem fld_15_1 : vc_fld 15 4 1 = some (some 17) := rfl
theorem fld_15_2 : vc_fld 15 4 2 = some (some 18) := rfl
theorem fld_15_3 : vc_fld 15 4 3 = some (some 19) := rfl
theorem fld_15_4 : vc_fld 15 4 4 = some none := rfl
theorem arr_16 : vc_arr 16 = some (0, 8) := rfl
theorem arr_17 : vc_arr 17 = some (0, 8) := rfl
theorem arr_18 : vc_arr 18 = some (0, 8) := rfl
theorem arr_19 : vc_arr 19 = some (0, 8) := rfl
theorem lay_20 : vc_lay 20 = some (2, 4, [some 21, some 23, some 25, some 27]) := rfl
theorem cls_21 : vc_cls 21 = 8 := rfl
theorem fld_21_0 : vc_fld 21 5 0 = some (some 22) := rfl
theorem fld_21_1 : vc_fld 21 5 1 = some none := rfl
theorem fld_21_2 : vc_fld 21 5 2 = some none := rfl
theorem fld_21_3 : vc_fld 21 5 3 = some none := rfl
theorem arr_22 : vc_arr 22 = some (0, 60) := rfl
theorem cls_23 : vc_cls 23 = 8 := rfl
theorem fld_23_0 : vc_fld 23 5 0 = some (some 24) := rfl
theorem fld_23_1 : vc_fld 23 5 1 = some none := rfl
theorem fld_23_2 : vc_fld 23 5 2 = some none := rfl
theorem fld_23_3 : vc_fld 23 5 3 = some none := rfl
theorem arr_24 : vc_arr 24 = some (0, 60) := rfl
theorem cls_25 : vc_cls 25 = 8 := rfl
theorem fld_25_0 : vc_fld 25 5 0 = some (some 26) := rfl
theorem fld_25_1 : vc_fld 25 5 1 = some none := rfl
theorem fld_25_2 : vc_fld 25 5 2 = some none := rfl
theorem fld_25_3 : vc_fld 25 5 3 = some none := rfl
theorem arr_26 : vc_arr 26 = some (0, 60) := rfl
theorem cls_27 : vc_cls 27 = 8 := rfl
theorem fld_27_0 : vc_fld 27 5 0 = some (some 28) := rfl
theorem fld_27_1 : vc_fld 27 5 1 = some none := rfl
theorem fld_27_2 : vc_fld 27 5 2 = some none := rfl
theorem fld_27_3 : vc_fld 27 5 3 = some none := rfl
theorem arr_28 : vc_arr 28 = some (0, 60) := rfl
theorem cls_29 : vc_cls 29 = 11 := rfl
theorem fld_29_0 : vc_fld 29 8 0 = some (some 30) := rfl
theorem fld_29_1 : vc_fld 29 8 1 = some (some 31) := rfl
theorem fld_29_2 : vc_fld 29 8 2 = some (some 32) := rfl
theorem fld_29_3 : vc_fld 29 8 3 = some (some 33) := rfl
theorem fld_29_4 : vc_fld 29 8 4 = some (some 34) := rfl
theorem fld_29_5 : vc_fld 29 8 5 = some (some 35) := rfl
theorem fld_29_6 : vc_fld 29 8 6 = some (some 36) := rfl
theorem fld_29_7 : vc_fld 29 8 7 = some (some 37) := rfl
theorem fld_29_8 : vc_fld 29 8 8 = some none := rfl
theorem fld_29_9 : vc_fld 29 8 9 = some none := rfl
theorem arr_30 : vc_arr 30 = some (0, 496) := rfl
theorem arr_31 : vc_arr 31 = some (0, 744) := rfl
theorem arr_32 : vc_arr 32 = some (0, 248) := rfl
theorem arr_33 : vc_arr 33 = some (0, 240) := rfl
theorem arr_34 : vc_arr 34 = some (0, 16) := rfl
theorem arr_35 : vc_arr 35 = some (0, 8) := rfl
theorem arr_36 : vc_arr 36 = some (0, 16) := rfl
theorem arr_37 : vc_arr 37 = some (0, 3) := rfl
theorem cls_38 : vc_cls 38 = 11 := rfl
theorem fld_38_0 : vc_fld 38 8 0 = some (some 39) := rfl
theorem fld_38_1 : vc_fld 38 8 1 = some (some 40) := rfl
theorem fld_38_2 : vc_fld 38 8 2 = some (some 41) := rfl
theorem fld_38_3 : vc_fld 38 8 3 = some (some 42) := rfl
theorem fld_38_4 : vc_fld 38 8 4 = some (some 43) := rfl
theorem fld_38_5 : vc_fld 38 8 5 = some (some 44) := rfl
theorem fld_38_6 : vc_fld 38 8 6 = some (some 45) := rfl
theorem fld_38_7 : vc_fld 38 8 7 = some (some 46) := rfl
theorem fld_38_8 : vc_fld 38 8 8 = some none := rfl
theorem fld_38_9 : vc_fld 38 8 9 = some none := rfl
theorem arr_39 : vc_arr 39 = some (0, 496) := rfl
theorem arr_40 : vc_arr 40 = some (0, 744) := rfl
theorem arr_41 : vc_arr 41 = some (0, 248) := rfl
theorem arr_42 : vc_arr 42 = some (0, 240) := rfl
theorem arr_43 : vc_arr 43 = some (0, 16) := rfl
theorem arr_44 : vc_arr 44 = some (0, 8) := rfl
theorem arr_45 : vc_arr 45 = some (0, 16) := rfl
theorem arr_46 : vc_arr 46 = some (0, 3) := rfl
theorem cls_47 : vc_cls 47 = 4 := rfl
theorem fld_47_0 : vc_fld 47 1 0 = some (some 48) := rfl
theorem fld_47_1 : vc_fld 47 1 1 = some (some 49) := rfl
theorem fld_47_2 : vc_fld 47 1 2 = some (some 50) := rfl
theorem fld_47_3 : vc_fld 47 1 3 = some none := rfl
theorem arr_48 : vc_arr 48 = some (0, 9) := rfl
theorem arr_49 : vc_arr 49 = some (0, 9) := rfl
theorem arr_50 : vc_arr 50 = some (0, 9) := rfl
theorem cls_51 : vc_cls 51 = 5 := rfl
theorem fld_51_0 : vc_fld 51 2 0 = some none := rfl
theorem cls_52 : vc_cls 52 = 9 := rfl
theorem fld_52_0 : vc_fld 52 6 0 = some (some 53) := rfl
theorem fld_52_1 : vc_fld 52 6 1 = some none := rfl
theorem arr_53 : vc_arr 53 = some (0, 72) := rfl
theorem arr_54 : vc_arr 54 = some (0, 4) := rfl
theorem arr_55 : vc_arr 55 = some (0, 300) := rfl
theorem arr_56 : vc_arr 56 = some (0, 31) := rfl
theorem cls_57 : vc_cls 57 = 13 := rfl
theorem fld_57_0 : vc_fld 57 10 0 = some (some 58) := rfl
theorem fld_57_1 : vc_fld 57 10 1 = some (some 59) := rfl
theorem fld_57_2 : vc_fld 57 10 2 = some none := rfl
theorem fld_57_3 : vc_fld 57 10 3 = some (some 60) := rfl
theorem fld_57_4 : vc_fld 57 10 4 = some (some 61) := rfl
theorem fld_57_5 : vc_fld 57 10 5 = some none := rfl
theorem fld_57_6 : vc_fld 57 10 6 = some (some 62) := rfl
theorem fld_57_7 : vc_fld 57 10 7 = some (some 63) := rfl
theorem fld_57_8 : vc_fld 57 10 8 = some none := rfl
theorem fld_57_9 : vc_fld 57 10 9 = some none := rfl
theorem fld_57_10 : vc_fld 57 10 10 = some (some 64) := rfl
theorem fld_57_11 : vc_fld 57 10 11 = some (some 65) := rfl
theorem fld_57_12 : vc_fld 57 10 12 = some (some 66) := rfl
theorem fld_57_13 : vc_fld 57 10 13 = some (some 67) := rfl
theorem fld_57_14 : vc_fld 57 10 14 = some none := rfl
theorem fld_57_15 : vc_fld 57 10 15 = some (some 68) := rfl
theorem fld_57_16 : vc_fld 57 10 16 = some (some 69) := rfl
theorem fld_57_17 : vc_fld 57 10 17 = some (some 70) := rfl
theorem fld_57_18 : vc_fld 57 10 18 = some none := rfl
theorem fld_57_19 : vc_fld 57 10 19 = some (some 71) := rfl
theorem fld_57_20 : vc_fld 57 10 20 = some (some 72) := rfl
theorem fld_57_21 : vc_fld 57 10 21 = some (some 73) := rfl
theorem fld_57_22 : vc_fld 57 10 22 = some (some 74) := rfl
theorem fld_57_23 : vc_fld 57 10 23 = some (some 75) := rfl
theorem fld_57_24 : vc_fld 57 10 24 = some (some 76) := rfl
theorem fld_57_25 : vc_fld 57 10 25 = some none := rfl
theorem fld_57_26 : vc_fld 57 10 26 = some (some 77) := rfl
theorem fld_57_27 : vc_fld 57 10 27 = some (some 78) := rfl
theorem fld_57_28 : vc_fld 57 10 28 = some (some 79) := rfl
theorem fld_57_29 : vc_fld 57 10 29 = some (some 80) := rfl
theorem fld_57_30 : vc_fld 57 10 30 = some (some 81) := rfl
theorem fld_57_31 : vc_fld 57 10 31 = some (some 82) := rfl
theorem fld_57_32 : vc_fld 57 10 32 = some none := rfl
theorem fld_57_33 : vc_fld 57 10 33 = some (some 83) := rfl
theorem fld_57_34 : vc_fld 57 10 34 = some (some 84) := rfl
theorem fld_57_35 : vc_fld 57 10 35 = some (some 85) := rfl
theorem fld_57_36 : vc_fld 57 10 36 = some (some 86) := rfl
theorem fld_57_37 : vc_fld 57 10 37 = some (some 87) := rfl
theorem fld_57_38 : vc_fld 57 10 38 = some (some 88) := rfl
theorem fld_57_39 : vc_fld 57 10 39 = some (some 89) := rfl
theorem fld_57_40 : vc_fld 57 10 40 = some (some 90) := rfl
theorem fld_57_41 : vc_fld 57 10 41 = some (some 91) := rfl
theorem fld_57_42 : vc_fld 57 10 42 = some (some 92) := rfl
theorem fld_57_43 : vc_fld 57 10 43 = some none := rfl
theorem arr_58 : vc_arr 58 = some (0, 2) := rfl
theorem arr_59 : vc_arr 59 = some (0, 78) := rfl
theorem arr_60 : vc_arr 60 = some (0, 9) := rfl
theorem arr_61 : vc_arr 61 = some (0, 27) := rfl
theorem arr_62 : vc_arr 62 = some (0, 16) := rfl
theorem arr_63 : vc_arr 63 = some (0, 16) := rfl
theorem arr_64 : vc_arr 64 = some (0, 9) := rfl
theorem arr_65 : vc_arr 65 = some (0, 9) := rfl
theorem arr_66 : vc_arr 66 = some (0, 9) := rfl
theorem arr_67 : vc_arr 67 = some (0, 16) := rfl
theorem arr_68 : vc_arr 68 = some (0, 9) := rfl
theorem arr_69 : vc_arr 69 = some (0, 9) := rfl
theorem arr_70 : vc_arr 70 = some (0, 9) := rfl
theorem arr_71 : vc_arr 71 = some (0, 3) := rfl
theorem arr_72 : vc_arr 72 = some (0, 16) := rfl
theorem arr_73 : vc_arr 73 = some (0, 24) := rfl
theorem arr_74 : vc_arr 74 = some (0, 8) := rfl
theorem arr_75 : vc_arr 75 = some (0, 8) := rfl
theorem arr_76 : vc_arr 76 = some (0, 16) := rfl
theorem arr_77 : vc_arr 77 = some (0, 480) := rfl
theorem arr_78 : vc_arr 78 = some (0, 240) := rfl
theorem arr_79 : vc_arr 79 = some (0, 240) := rfl
theorem arr_80 : vc_arr 80 = some (0, 720) := rfl
theorem arr_81 : vc_arr 81 = some (0, 8) := rfl
theorem arr_82 : vc_arr 82 = some (0, 2) := rfl
theorem arr_83 : vc_arr 83 = some (0, 8) := rfl
theorem arr_84 : vc_arr 84 = some (0, 8) := rfl
theorem arr_85 : vc_arr 85 = some (0, 8) := rfl
theorem arr_86 : vc_arr 86 = some (0, 8) := rfl
theorem arr_87 : vc_arr 87 = some (0, 300) := rfl
theorem arr_88 : vc_arr 88 = some (1, 4) := rfl
theorem arr_89 : vc_arr 89 = some (0, 4) := rfl
theorem arr_90 : vc_arr 90 = some (0, 4) := rfl
theorem arr_91 : vc_arr 91 = some (0, 240) := rfl
theorem arr_92 : vc_arr 92 = some (0, 60) := rfl
