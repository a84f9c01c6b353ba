/-! the cells, one by one -/
theorem sh_0 : ix SH 0 = some (11, [3, 4, 6, 16, 18, 25, 32, 34, 35, 43, 47, 50, 0]) := rfl
theorem sh_1 : ix SH 1 = some (10, [0, 0, 0, 0, 0, 0, 1, 1, 0]) := rfl
theorem sh_2 : ix SH 2 = some (8, [0, 0, 0, 0, 0, 0, 5]) := rfl
theorem sh_3 : ix SH 3 = some (102, [500]) := rfl
theorem sh_4 : ix SH 4 = some (7, [0, 0, 7, 8, 9, 10, 11, 12, 13, 14, 15]) := rfl
theorem sh_5 : ix SH 5 = some (100, [60]) := rfl
theorem sh_6 : ix SH 6 = some (100, [60]) := rfl
theorem sh_7 : ix SH 7 = some (100, [60]) := rfl
theorem sh_8 : ix SH 8 = some (100, [300]) := rfl
theorem sh_9 : ix SH 9 = some (100, [8]) := rfl
theorem sh_10 : ix SH 10 = some (100, [8]) := rfl
theorem sh_11 : ix SH 11 = some (100, [8]) := rfl
theorem sh_12 : ix SH 12 = some (100, [96]) := rfl
theorem sh_13 : ix SH 13 = some (100, [96]) := rfl
theorem sh_14 : ix SH 14 = some (3, [4, 6, 0, 0, 0, 17]) := rfl
theorem sh_15 : ix SH 15 = some (100, [5]) := rfl
theorem sh_16 : ix SH 16 = some (2, [0, 19, 20, 21, 22, 23, 24, 3]) := rfl
theorem sh_17 : ix SH 17 = some (100, [151]) := rfl
theorem sh_18 : ix SH 18 = some (100, [151]) := rfl
theorem sh_19 : ix SH 19 = some (103, [151]) := rfl
theorem sh_20 : ix SH 20 = some (100, [151]) := rfl
theorem sh_21 : ix SH 21 = some (100, [151]) := rfl
theorem sh_22 : ix SH 22 = some (100, [300]) := rfl
theorem sh_23 : ix SH 23 = some (2, [0, 26, 27, 28, 29, 30, 31, 3]) := rfl
theorem sh_24 : ix SH 24 = some (100, [151]) := rfl
theorem sh_25 : ix SH 25 = some (100, [151]) := rfl
theorem sh_26 : ix SH 26 = some (103, [151]) := rfl
theorem sh_27 : ix SH 27 = some (100, [151]) := rfl
theorem sh_28 : ix SH 28 = some (100, [151]) := rfl
theorem sh_29 : ix SH 29 = some (100, [300]) := rfl
theorem sh_30 : ix SH 30 = some (5, [3, 6, 18, 0, 0, 0, 0, 0, 0, 0, 0, 33]) := rfl
theorem sh_31 : ix SH 31 = some (100, [4]) := rfl
theorem sh_32 : ix SH 32 = some (9, [3, 18, 1, 1, 1, 1, 1]) := rfl
theorem sh_33 : ix SH 33 = some (0, [0, 0, 36, 37, 38, 39, 40, 41, 42, 3, 18]) := rfl
theorem sh_34 : ix SH 34 = some (100, [12]) := rfl
theorem sh_35 : ix SH 35 = some (100, [12]) := rfl
theorem sh_36 : ix SH 36 = some (100, [12]) := rfl
theorem sh_37 : ix SH 37 = some (100, [12]) := rfl
theorem sh_38 : ix SH 38 = some (100, [12]) := rfl
theorem sh_39 : ix SH 39 = some (100, [2028]) := rfl
theorem sh_40 : ix SH 40 = some (100, [169]) := rfl
theorem sh_41 : ix SH 41 = some (1, [0, 0, 0, 0, 3, 18, 25, 44, 45, 46]) := rfl
theorem sh_42 : ix SH 42 = some (100, [151]) := rfl
theorem sh_43 : ix SH 43 = some (100, [300]) := rfl
theorem sh_44 : ix SH 44 = some (100, [300]) := rfl
theorem sh_45 : ix SH 45 = some (4, [0, 0, 0, 0, 48, 49]) := rfl
theorem sh_46 : ix SH 46 = some (101, [20]) := rfl
theorem sh_47 : ix SH 47 = some (101, [20]) := rfl
theorem sh_48 : ix SH 48 = some (6, [0, 0, 0, 0, 18]) := rfl
theorem sh_49 : ix SH 49 = some (12, [52, 0, 0, 0, 0, 0, 0, 0, 0, 53, 0, 0, 0, 0, 0, 0, 0, 0, 0, 54, 55, 56, 0, 57, 0, 58, 59, 60, 61, 0, 0, 62, 63, 64, 0, 0, 65, 66, 67, 68, 69, 70, 0, 0, 0, 0, 0, 71, 0, 72, 73, 74, 75, 76, 77, 0, 78, 79, 80, 81, 0, 82, 0, 0, 0, 0]) := rfl
theorem sh_50 : ix SH 50 = some (100, [500]) := rfl
theorem sh_51 : ix SH 51 = some (100, [34]) := rfl
theorem sh_52 : ix SH 52 = some (100, [60]) := rfl
theorem sh_53 : ix SH 53 = some (100, [300]) := rfl
theorem sh_54 : ix SH 54 = some (100, [60]) := rfl
theorem sh_55 : ix SH 55 = some (100, [5]) := rfl
theorem sh_56 : ix SH 56 = some (100, [8]) := rfl
theorem sh_57 : ix SH 57 = some (100, [8]) := rfl
theorem sh_58 : ix SH 58 = some (100, [96]) := rfl
theorem sh_59 : ix SH 59 = some (100, [96]) := rfl
theorem sh_60 : ix SH 60 = some (100, [302]) := rfl
theorem sh_61 : ix SH 61 = some (100, [302]) := rfl
theorem sh_62 : ix SH 62 = some (103, [302]) := rfl
theorem sh_63 : ix SH 63 = some (100, [4]) := rfl
theorem sh_64 : ix SH 64 = some (100, [5]) := rfl
theorem sh_65 : ix SH 65 = some (100, [5]) := rfl
theorem sh_66 : ix SH 66 = some (100, [30]) := rfl
theorem sh_67 : ix SH 67 = some (101, [2]) := rfl
theorem sh_68 : ix SH 68 = some (101, [2]) := rfl
theorem sh_69 : ix SH 69 = some (100, [300]) := rfl
theorem sh_70 : ix SH 70 = some (100, [12]) := rfl
theorem sh_71 : ix SH 71 = some (100, [12]) := rfl
theorem sh_72 : ix SH 72 = some (100, [12]) := rfl
theorem sh_73 : ix SH 73 = some (100, [2028]) := rfl
theorem sh_74 : ix SH 74 = some (100, [12]) := rfl
theorem sh_75 : ix SH 75 = some (100, [12]) := rfl
theorem sh_76 : ix SH 76 = some (100, [22801]) := rfl
theorem sh_77 : ix SH 77 = some (100, [151]) := rfl
theorem sh_78 : ix SH 78 = some (100, [151]) := rfl
theorem sh_79 : ix SH 79 = some (100, [600]) := rfl
theorem sh_80 : ix SH 80 = some (100, [80]) := rfl
theorem sh_81 : ix SH 81 = some (101, [1]) := rfl
