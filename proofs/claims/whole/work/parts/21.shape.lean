/-! ===== what there is: rows of S0 L ===== -/
theorem kS_0 (L : Nat) : kd (S0 L) 0 = 4 := id rfl
theorem lS_0 (L : Nat) : ln (S0 L) 0 = L := id rfl
theorem kS_1 (L : Nat) : kd (S0 L) 1 = 4 := id rfl
theorem lS_1 (L : Nat) : ln (S0 L) 1 = 6 := id rfl
theorem kS_2 (L : Nat) : kd (S0 L) 2 = 4 := id rfl
theorem lS_2 (L : Nat) : ln (S0 L) 2 = 6 := id rfl
theorem kS_3 (L : Nat) : kd (S0 L) 3 = 4 := id rfl
theorem lS_3 (L : Nat) : ln (S0 L) 3 = 6 := id rfl
theorem kS_4 (L : Nat) : kd (S0 L) 4 = 17 := id rfl
theorem rS_4_0 (L : Nat) : rfo (S0 L) 4 0 = some 5 := id rfl
theorem rS_4_1 (L : Nat) : rfo (S0 L) 4 1 = some 17 := id rfl
theorem rS_4_2 (L : Nat) : rfo (S0 L) 4 2 = some 27 := id rfl
theorem rS_4_3 (L : Nat) : rfo (S0 L) 4 3 = some 35 := id rfl
theorem rS_4_4 (L : Nat) : rfo (S0 L) 4 4 = some 36 := id rfl
theorem rS_4_5 (L : Nat) : rfo (S0 L) 4 5 = some 62 := id rfl
theorem rS_4_6 (L : Nat) : rfo (S0 L) 4 6 = some 71 := id rfl
theorem rS_4_7 (L : Nat) : rfo (S0 L) 4 7 = some 88 := id rfl
theorem kS_5 (L : Nat) : kd (S0 L) 5 = 15 := id rfl
theorem rS_5_0 (L : Nat) : rfo (S0 L) 5 0 = some 6 := id rfl
theorem rS_5_1 (L : Nat) : rfo (S0 L) 5 1 = some 15 := id rfl
theorem rS_5_2 (L : Nat) : rfo (S0 L) 5 2 = some 16 := id rfl
theorem kS_6 (L : Nat) : kd (S0 L) 6 = 3 := id rfl
theorem lS_6 (L : Nat) : ln (S0 L) 6 = 8 := id rfl
theorem rS_6_0 (L : Nat) : rfo (S0 L) 6 0 = some 7 := id rfl
theorem rS_6_1 (L : Nat) : rfo (S0 L) 6 1 = some 8 := id rfl
theorem rS_6_2 (L : Nat) : rfo (S0 L) 6 2 = some 9 := id rfl
theorem rS_6_3 (L : Nat) : rfo (S0 L) 6 3 = some 10 := id rfl
theorem rS_6_4 (L : Nat) : rfo (S0 L) 6 4 = some 11 := id rfl
theorem rS_6_5 (L : Nat) : rfo (S0 L) 6 5 = some 12 := id rfl
theorem rS_6_6 (L : Nat) : rfo (S0 L) 6 6 = some 13 := id rfl
theorem rS_6_7 (L : Nat) : rfo (S0 L) 6 7 = some 14 := id rfl
theorem kS_7 (L : Nat) : kd (S0 L) 7 = 0 := id rfl
theorem lS_7 (L : Nat) : ln (S0 L) 7 = 40 := id rfl
theorem kS_8 (L : Nat) : kd (S0 L) 8 = 0 := id rfl
theorem lS_8 (L : Nat) : ln (S0 L) 8 = 40 := id rfl
theorem kS_9 (L : Nat) : kd (S0 L) 9 = 0 := id rfl
theorem lS_9 (L : Nat) : ln (S0 L) 9 = 40 := id rfl
theorem kS_10 (L : Nat) : kd (S0 L) 10 = 0 := id rfl
theorem lS_10 (L : Nat) : ln (S0 L) 10 = 40 := id rfl
theorem kS_11 (L : Nat) : kd (S0 L) 11 = 0 := id rfl
theorem lS_11 (L : Nat) : ln (S0 L) 11 = 40 := id rfl
theorem kS_12 (L : Nat) : kd (S0 L) 12 = 0 := id rfl
theorem lS_12 (L : Nat) : ln (S0 L) 12 = 40 := id rfl
theorem kS_13 (L : Nat) : kd (S0 L) 13 = 0 := id rfl
theorem lS_13 (L : Nat) : ln (S0 L) 13 = 40 := id rfl
theorem kS_14 (L : Nat) : kd (S0 L) 14 = 0 := id rfl
theorem lS_14 (L : Nat) : ln (S0 L) 14 = 40 := id rfl
theorem kS_15 (L : Nat) : kd (S0 L) 15 = 0 := id rfl
theorem lS_15 (L : Nat) : ln (S0 L) 15 = 8 := id rfl
theorem kS_16 (L : Nat) : kd (S0 L) 16 = 0 := id rfl
theorem lS_16 (L : Nat) : ln (S0 L) 16 = 8 := id rfl
theorem kS_17 (L : Nat) : kd (S0 L) 17 = 16 := id rfl
theorem rS_17_0 (L : Nat) : rfo (S0 L) 17 0 = some 18 := id rfl
theorem rS_17_4 (L : Nat) : rfo (S0 L) 17 4 = some 19 := id rfl
theorem kS_18 (L : Nat) : kd (S0 L) 18 = 0 := id rfl
theorem lS_18 (L : Nat) : ln (S0 L) 18 = 100 := id rfl
theorem kS_19 (L : Nat) : kd (S0 L) 19 = 14 := id rfl
theorem rS_19_1 (L : Nat) : rfo (S0 L) 19 1 = some 20 := id rfl
theorem rS_19_2 (L : Nat) : rfo (S0 L) 19 2 = some 21 := id rfl
theorem rS_19_4 (L : Nat) : rfo (S0 L) 19 4 = some 22 := id rfl
theorem rS_19_5 (L : Nat) : rfo (S0 L) 19 5 = some 23 := id rfl
theorem rS_19_6 (L : Nat) : rfo (S0 L) 19 6 = some 24 := id rfl
theorem rS_19_7 (L : Nat) : rfo (S0 L) 19 7 = some 25 := id rfl
theorem rS_19_8 (L : Nat) : rfo (S0 L) 19 8 = some 26 := id rfl
theorem kS_20 (L : Nat) : kd (S0 L) 20 = 0 := id rfl
theorem lS_20 (L : Nat) : ln (S0 L) 20 = 5 := id rfl
theorem kS_21 (L : Nat) : kd (S0 L) 21 = 0 := id rfl
theorem lS_21 (L : Nat) : ln (S0 L) 21 = 5 := id rfl
theorem kS_22 (L : Nat) : kd (S0 L) 22 = 0 := id rfl
theorem lS_22 (L : Nat) : ln (S0 L) 22 = 7 := id rfl
theorem kS_23 (L : Nat) : kd (S0 L) 23 = 0 := id rfl
theorem lS_23 (L : Nat) : ln (S0 L) 23 = 7 := id rfl
theorem kS_24 (L : Nat) : kd (S0 L) 24 = 0 := id rfl
theorem lS_24 (L : Nat) : ln (S0 L) 24 = 7 := id rfl
theorem kS_25 (L : Nat) : kd (S0 L) 25 = 0 := id rfl
theorem lS_25 (L : Nat) : ln (S0 L) 25 = 7 := id rfl
theorem kS_26 (L : Nat) : kd (S0 L) 26 = 0 := id rfl
theorem lS_26 (L : Nat) : ln (S0 L) 26 = 7 := id rfl
theorem kS_27 (L : Nat) : kd (S0 L) 27 = 14 := id rfl
theorem rS_27_1 (L : Nat) : rfo (S0 L) 27 1 = some 28 := id rfl
theorem rS_27_2 (L : Nat) : rfo (S0 L) 27 2 = some 29 := id rfl
theorem rS_27_4 (L : Nat) : rfo (S0 L) 27 4 = some 30 := id rfl
theorem rS_27_5 (L : Nat) : rfo (S0 L) 27 5 = some 31 := id rfl
theorem rS_27_6 (L : Nat) : rfo (S0 L) 27 6 = some 32 := id rfl
theorem rS_27_7 (L : Nat) : rfo (S0 L) 27 7 = some 33 := id rfl
theorem rS_27_8 (L : Nat) : rfo (S0 L) 27 8 = some 34 := id rfl
theorem kS_28 (L : Nat) : kd (S0 L) 28 = 0 := id rfl
theorem lS_28 (L : Nat) : ln (S0 L) 28 = 5 := id rfl
theorem kS_29 (L : Nat) : kd (S0 L) 29 = 0 := id rfl
theorem lS_29 (L : Nat) : ln (S0 L) 29 = 5 := id rfl
theorem kS_30 (L : Nat) : kd (S0 L) 30 = 0 := id rfl
theorem lS_30 (L : Nat) : ln (S0 L) 30 = 7 := id rfl
theorem kS_31 (L : Nat) : kd (S0 L) 31 = 0 := id rfl
theorem lS_31 (L : Nat) : ln (S0 L) 31 = 7 := id rfl
theorem kS_32 (L : Nat) : kd (S0 L) 32 = 0 := id rfl
theorem lS_32 (L : Nat) : ln (S0 L) 32 = 7 := id rfl
theorem kS_33 (L : Nat) : kd (S0 L) 33 = 0 := id rfl
theorem lS_33 (L : Nat) : ln (S0 L) 33 = 7 := id rfl
theorem kS_34 (L : Nat) : kd (S0 L) 34 = 0 := id rfl
theorem lS_34 (L : Nat) : ln (S0 L) 34 = 7 := id rfl
theorem kS_35 (L : Nat) : kd (S0 L) 35 = 2 := id rfl
theorem lS_35 (L : Nat) : ln (S0 L) 35 = 2 := id rfl
theorem rS_35_0 (L : Nat) : rfo (S0 L) 35 0 = some 90 := id rfl
theorem rS_35_1 (L : Nat) : rfo (S0 L) 35 1 = some 98 := id rfl
theorem kS_36 (L : Nat) : kd (S0 L) 36 = 10 := id rfl
theorem rS_36_0 (L : Nat) : rfo (S0 L) 36 0 = some 37 := id rfl
theorem kS_37 (L : Nat) : kd (S0 L) 37 = 3 := id rfl
theorem lS_37 (L : Nat) : ln (S0 L) 37 = 24 := id rfl
theorem rS_37_0 (L : Nat) : rfo (S0 L) 37 0 = some 38 := id rfl
theorem rS_37_1 (L : Nat) : rfo (S0 L) 37 1 = some 39 := id rfl
theorem rS_37_2 (L : Nat) : rfo (S0 L) 37 2 = some 40 := id rfl
theorem rS_37_3 (L : Nat) : rfo (S0 L) 37 3 = some 41 := id rfl
theorem rS_37_4 (L : Nat) : rfo (S0 L) 37 4 = some 42 := id rfl
theorem rS_37_5 (L : Nat) : rfo (S0 L) 37 5 = some 43 := id rfl
theorem rS_37_6 (L : Nat) : rfo (S0 L) 37 6 = some 44 := id rfl
theorem rS_37_7 (L : Nat) : rfo (S0 L) 37 7 = some 45 := id rfl
theorem rS_37_8 (L : Nat) : rfo (S0 L) 37 8 = some 46 := id rfl
theorem rS_37_9 (L : Nat) : rfo (S0 L) 37 9 = some 47 := id rfl
theorem rS_37_10 (L : Nat) : rfo (S0 L) 37 10 = some 48 := id rfl
theorem rS_37_11 (L : Nat) : rfo (S0 L) 37 11 = some 49 := id rfl
theorem rS_37_12 (L : Nat) : rfo (S0 L) 37 12 = some 50 := id rfl
theorem rS_37_13 (L : Nat) : rfo (S0 L) 37 13 = some 51 := id rfl
theorem rS_37_14 (L : Nat) : rfo (S0 L) 37 14 = some 52 := id rfl
theorem rS_37_15 (L : Nat) : rfo (S0 L) 37 15 = some 53 := id rfl
theorem rS_37_16 (L : Nat) : rfo (S0 L) 37 16 = some 54 := id rfl
theorem rS_37_17 (L : Nat) : rfo (S0 L) 37 17 = some 55 := id rfl
theorem rS_37_18 (L : Nat) : rfo (S0 L) 37 18 = some 56 := id rfl
theorem rS_37_19 (L : Nat) : rfo (S0 L) 37 19 = some 57 := id rfl
theorem rS_37_20 (L : Nat) : rfo (S0 L) 37 20 = some 58 := id rfl
theorem rS_37_21 (L : Nat) : rfo (S0 L) 37 21 = some 59 := id rfl
theorem rS_37_22 (L : Nat) : rfo (S0 L) 37 22 = some 60 := id rfl
theorem rS_37_23 (L : Nat) : rfo (S0 L) 37 23 = some 61 := id rfl
theorem kS_38 (L : Nat) : kd (S0 L) 38 = 0 := id rfl
theorem lS_38 (L : Nat) : ln (S0 L) 38 = 20 := id rfl
theorem kS_39 (L : Nat) : kd (S0 L) 39 = 0 := id rfl
theorem lS_39 (L : Nat) : ln (S0 L) 39 = 20 := id rfl
theorem kS_40 (L : Nat) : kd (S0 L) 40 = 0 := id rfl
theorem lS_40 (L : Nat) : ln (S0 L) 40 = 20 := id rfl
theorem kS_41 (L : Nat) : kd (S0 L) 41 = 0 := id rfl
theorem lS_41 (L : Nat) : ln (S0 L) 41 = 20 := id rfl
theorem kS_42 (L : Nat) : kd (S0 L) 42 = 0 := id rfl
theorem lS_42 (L : Nat) : ln (S0 L) 42 = 20 := id rfl
theorem kS_43 (L : Nat) : kd (S0 L) 43 = 0 := id rfl
theorem lS_43 (L : Nat) : ln (S0 L) 43 = 20 := id rfl
theorem kS_44 (L : Nat) : kd (S0 L) 44 = 0 := id rfl
theorem lS_44 (L : Nat) : ln (S0 L) 44 = 20 := id rfl
theorem kS_45 (L : Nat) : kd (S0 L) 45 = 0 := id rfl
theorem lS_45 (L : Nat) : ln (S0 L) 45 = 20 := id rfl
theorem kS_46 (L : Nat) : kd (S0 L) 46 = 0 := id rfl
theorem lS_46 (L : Nat) : ln (S0 L) 46 = 20 := id rfl
theorem kS_47 (L : Nat) : kd (S0 L) 47 = 0 := id rfl
theorem lS_47 (L : Nat) : ln (S0 L) 47 = 20 := id rfl
theorem kS_48 (L : Nat) : kd (S0 L) 48 = 0 := id rfl
theorem lS_48 (L : Nat) : ln (S0 L) 48 = 20 := id rfl
theorem kS_49 (L : Nat) : kd (S0 L) 49 = 0 := id rfl
theorem lS_49 (L : Nat) : ln (S0 L) 49 = 20 := id rfl
theorem kS_50 (L : Nat) : kd (S0 L) 50 = 0 := id rfl
theorem lS_50 (L : Nat) : ln (S0 L) 50 = 20 := id rfl
theorem kS_51 (L : Nat) : kd (S0 L) 51 = 0 := id rfl
theorem lS_51 (L : Nat) : ln (S0 L) 51 = 20 := id rfl
theorem kS_52 (L : Nat) : kd (S0 L) 52 = 0 := id rfl
theorem lS_52 (L : Nat) : ln (S0 L) 52 = 20 := id rfl
theorem kS_53 (L : Nat) : kd (S0 L) 53 = 0 := id rfl
theorem lS_53 (L : Nat) : ln (S0 L) 53 = 20 := id rfl
theorem kS_54 (L : Nat) : kd (S0 L) 54 = 0 := id rfl
theorem lS_54 (L : Nat) : ln (S0 L) 54 = 20 := id rfl
theorem kS_55 (L : Nat) : kd (S0 L) 55 = 0 := id rfl
theorem lS_55 (L : Nat) : ln (S0 L) 55 = 20 := id rfl
theorem kS_56 (L : Nat) : kd (S0 L) 56 = 0 := id rfl
theorem lS_56 (L : Nat) : ln (S0 L) 56 = 20 := id rfl
theorem kS_57 (L : Nat) : kd (S0 L) 57 = 0 := id rfl
theorem lS_57 (L : Nat) : ln (S0 L) 57 = 20 := id rfl
theorem kS_58 (L : Nat) : kd (S0 L) 58 = 0 := id rfl
theorem lS_58 (L : Nat) : ln (S0 L) 58 = 20 := id rfl
theorem kS_59 (L : Nat) : kd (S0 L) 59 = 0 := id rfl
theorem lS_59 (L : Nat) : ln (S0 L) 59 = 20 := id rfl
theorem kS_60 (L : Nat) : kd (S0 L) 60 = 0 := id rfl
theorem lS_60 (L : Nat) : ln (S0 L) 60 = 20 := id rfl
theorem kS_61 (L : Nat) : kd (S0 L) 61 = 0 := id rfl
theorem lS_61 (L : Nat) : ln (S0 L) 61 = 20 := id rfl
theorem kS_62 (L : Nat) : kd (S0 L) 62 = 13 := id rfl
theorem rS_62_0 (L : Nat) : rfo (S0 L) 62 0 = some 63 := id rfl
theorem kS_63 (L : Nat) : kd (S0 L) 63 = 14 := id rfl
theorem rS_63_1 (L : Nat) : rfo (S0 L) 63 1 = some 64 := id rfl
theorem rS_63_2 (L : Nat) : rfo (S0 L) 63 2 = some 65 := id rfl
theorem rS_63_4 (L : Nat) : rfo (S0 L) 63 4 = some 66 := id rfl
theorem rS_63_5 (L : Nat) : rfo (S0 L) 63 5 = some 67 := id rfl
theorem rS_63_6 (L : Nat) : rfo (S0 L) 63 6 = some 68 := id rfl
theorem rS_63_7 (L : Nat) : rfo (S0 L) 63 7 = some 69 := id rfl
theorem rS_63_8 (L : Nat) : rfo (S0 L) 63 8 = some 70 := id rfl
theorem kS_64 (L : Nat) : kd (S0 L) 64 = 0 := id rfl
theorem lS_64 (L : Nat) : ln (S0 L) 64 = 5 := id rfl
theorem kS_65 (L : Nat) : kd (S0 L) 65 = 0 := id rfl
theorem lS_65 (L : Nat) : ln (S0 L) 65 = 5 := id rfl
theorem kS_66 (L : Nat) : kd (S0 L) 66 = 0 := id rfl
theorem lS_66 (L : Nat) : ln (S0 L) 66 = 7 := id rfl
theorem kS_67 (L : Nat) : kd (S0 L) 67 = 0 := id rfl
theorem lS_67 (L : Nat) : ln (S0 L) 67 = 7 := id rfl
theorem kS_68 (L : Nat) : kd (S0 L) 68 = 0 := id rfl
theorem lS_68 (L : Nat) : ln (S0 L) 68 = 7 := id rfl
theorem kS_69 (L : Nat) : kd (S0 L) 69 = 0 := id rfl
theorem lS_69 (L : Nat) : ln (S0 L) 69 = 7 := id rfl
theorem kS_70 (L : Nat) : kd (S0 L) 70 = 0 := id rfl
theorem lS_70 (L : Nat) : ln (S0 L) 70 = 7 := id rfl
theorem kS_71 (L : Nat) : kd (S0 L) 71 = 12 := id rfl
theorem rS_71_0 (L : Nat) : rfo (S0 L) 71 0 = some 72 := id rfl
theorem rS_71_1 (L : Nat) : rfo (S0 L) 71 1 = some 80 := id rfl
theorem kS_72 (L : Nat) : kd (S0 L) 72 = 14 := id rfl
theorem rS_72_1 (L : Nat) : rfo (S0 L) 72 1 = some 73 := id rfl
theorem rS_72_2 (L : Nat) : rfo (S0 L) 72 2 = some 74 := id rfl
theorem rS_72_4 (L : Nat) : rfo (S0 L) 72 4 = some 75 := id rfl
theorem rS_72_5 (L : Nat) : rfo (S0 L) 72 5 = some 76 := id rfl
theorem rS_72_6 (L : Nat) : rfo (S0 L) 72 6 = some 77 := id rfl
theorem rS_72_7 (L : Nat) : rfo (S0 L) 72 7 = some 78 := id rfl
theorem rS_72_8 (L : Nat) : rfo (S0 L) 72 8 = some 79 := id rfl
theorem kS_73 (L : Nat) : kd (S0 L) 73 = 0 := id rfl
theorem lS_73 (L : Nat) : ln (S0 L) 73 = 5 := id rfl
theorem kS_74 (L : Nat) : kd (S0 L) 74 = 0 := id rfl
theorem lS_74 (L : Nat) : ln (S0 L) 74 = 5 := id rfl
theorem kS_75 (L : Nat) : kd (S0 L) 75 = 0 := id rfl
theorem lS_75 (L : Nat) : ln (S0 L) 75 = 7 := id rfl
theorem kS_76 (L : Nat) : kd (S0 L) 76 = 0 := id rfl
theorem lS_76 (L : Nat) : ln (S0 L) 76 = 7 := id rfl
theorem kS_77 (L : Nat) : kd (S0 L) 77 = 0 := id rfl
theorem lS_77 (L : Nat) : ln (S0 L) 77 = 7 := id rfl
theorem kS_78 (L : Nat) : kd (S0 L) 78 = 0 := id rfl
theorem lS_78 (L : Nat) : ln (S0 L) 78 = 7 := id rfl
theorem kS_79 (L : Nat) : kd (S0 L) 79 = 0 := id rfl
theorem lS_79 (L : Nat) : ln (S0 L) 79 = 7 := id rfl
theorem kS_80 (L : Nat) : kd (S0 L) 80 = 3 := id rfl
theorem lS_80 (L : Nat) : ln (S0 L) 80 = 7 := id rfl
theorem rS_80_0 (L : Nat) : rfo (S0 L) 80 0 = some 81 := id rfl
theorem rS_80_1 (L : Nat) : rfo (S0 L) 80 1 = some 82 := id rfl
theorem rS_80_2 (L : Nat) : rfo (S0 L) 80 2 = some 83 := id rfl
theorem rS_80_3 (L : Nat) : rfo (S0 L) 80 3 = some 84 := id rfl
theorem rS_80_4 (L : Nat) : rfo (S0 L) 80 4 = some 85 := id rfl
theorem rS_80_5 (L : Nat) : rfo (S0 L) 80 5 = some 86 := id rfl
theorem rS_80_6 (L : Nat) : rfo (S0 L) 80 6 = some 87 := id rfl
theorem kS_81 (L : Nat) : kd (S0 L) 81 = 0 := id rfl
theorem lS_81 (L : Nat) : ln (S0 L) 81 = 5 := id rfl
theorem kS_82 (L : Nat) : kd (S0 L) 82 = 0 := id rfl
theorem lS_82 (L : Nat) : ln (S0 L) 82 = 5 := id rfl
theorem kS_83 (L : Nat) : kd (S0 L) 83 = 0 := id rfl
theorem lS_83 (L : Nat) : ln (S0 L) 83 = 5 := id rfl
theorem kS_84 (L : Nat) : kd (S0 L) 84 = 0 := id rfl
theorem lS_84 (L : Nat) : ln (S0 L) 84 = 5 := id rfl
theorem kS_85 (L : Nat) : kd (S0 L) 85 = 0 := id rfl
theorem lS_85 (L : Nat) : ln (S0 L) 85 = 5 := id rfl
theorem kS_86 (L : Nat) : kd (S0 L) 86 = 0 := id rfl
theorem lS_86 (L : Nat) : ln (S0 L) 86 = 5 := id rfl
theorem kS_87 (L : Nat) : kd (S0 L) 87 = 0 := id rfl
theorem lS_87 (L : Nat) : ln (S0 L) 87 = 5 := id rfl
theorem kS_88 (L : Nat) : kd (S0 L) 88 = 11 := id rfl
theorem rS_88_0 (L : Nat) : rfo (S0 L) 88 0 = some 89 := id rfl
theorem kS_89 (L : Nat) : kd (S0 L) 89 = 0 := id rfl
theorem lS_89 (L : Nat) : ln (S0 L) 89 = 16 := id rfl
theorem kS_90 (L : Nat) : kd (S0 L) 90 = 14 := id rfl
theorem rS_90_1 (L : Nat) : rfo (S0 L) 90 1 = some 91 := id rfl
theorem rS_90_2 (L : Nat) : rfo (S0 L) 90 2 = some 92 := id rfl
theorem rS_90_4 (L : Nat) : rfo (S0 L) 90 4 = some 93 := id rfl
theorem rS_90_5 (L : Nat) : rfo (S0 L) 90 5 = some 94 := id rfl
theorem rS_90_6 (L : Nat) : rfo (S0 L) 90 6 = some 95 := id rfl
theorem rS_90_7 (L : Nat) : rfo (S0 L) 90 7 = some 96 := id rfl
theorem rS_90_8 (L : Nat) : rfo (S0 L) 90 8 = some 97 := id rfl
theorem kS_91 (L : Nat) : kd (S0 L) 91 = 0 := id rfl
theorem lS_91 (L : Nat) : ln (S0 L) 91 = 5 := id rfl
theorem kS_92 (L : Nat) : kd (S0 L) 92 = 0 := id rfl
theorem lS_92 (L : Nat) : ln (S0 L) 92 = 5 := id rfl
theorem kS_93 (L : Nat) : kd (S0 L) 93 = 0 := id rfl
theorem lS_93 (L : Nat) : ln (S0 L) 93 = 7 := id rfl
theorem kS_94 (L : Nat) : kd (S0 L) 94 = 0 := id rfl
theorem lS_94 (L : Nat) : ln (S0 L) 94 = 7 := id rfl
theorem kS_95 (L : Nat) : kd (S0 L) 95 = 0 := id rfl
theorem lS_95 (L : Nat) : ln (S0 L) 95 = 7 := id rfl
theorem kS_96 (L : Nat) : kd (S0 L) 96 = 0 := id rfl
theorem lS_96 (L : Nat) : ln (S0 L) 96 = 7 := id rfl
theorem kS_97 (L : Nat) : kd (S0 L) 97 = 0 := id rfl
theorem lS_97 (L : Nat) : ln (S0 L) 97 = 7 := id rfl
theorem kS_98 (L : Nat) : kd (S0 L) 98 = 14 := id rfl
theorem rS_98_1 (L : Nat) : rfo (S0 L) 98 1 = some 99 := id rfl
theorem rS_98_2 (L : Nat) : rfo (S0 L) 98 2 = some 100 := id rfl
theorem rS_98_4 (L : Nat) : rfo (S0 L) 98 4 = some 101 := id rfl
theorem rS_98_5 (L : Nat) : rfo (S0 L) 98 5 = some 102 := id rfl
theorem rS_98_6 (L : Nat) : rfo (S0 L) 98 6 = some 103 := id rfl
theorem rS_98_7 (L : Nat) : rfo (S0 L) 98 7 = some 104 := id rfl
theorem rS_98_8 (L : Nat) : rfo (S0 L) 98 8 = some 105 := id rfl
theorem kS_99 (L : Nat) : kd (S0 L) 99 = 0 := id rfl
theorem lS_99 (L : Nat) : ln (S0 L) 99 = 5 := id rfl
theorem kS_100 (L : Nat) : kd (S0 L) 100 = 0 := id rfl
theorem lS_100 (L : Nat) : ln (S0 L) 100 = 5 := id rfl
theorem kS_101 (L : Nat) : kd (S0 L) 101 = 0 := id rfl
theorem lS_101 (L : Nat) : ln (S0 L) 101 = 7 := id rfl
theorem kS_102 (L : Nat) : kd (S0 L) 102 = 0 := id rfl
theorem lS_102 (L : Nat) : ln (S0 L) 102 = 7 := id rfl
theorem kS_103 (L : Nat) : kd (S0 L) 103 = 0 := id rfl
theorem lS_103 (L : Nat) : ln (S0 L) 103 = 7 := id rfl
theorem kS_104 (L : Nat) : kd (S0 L) 104 = 0 := id rfl
theorem lS_104 (L : Nat) : ln (S0 L) 104 = 7 := id rfl
theorem kS_105 (L : Nat) : kd (S0 L) 105 = 0 := id rfl
theorem lS_105 (L : Nat) : ln (S0 L) 105 = 7 := id rfl
theorem kS_106 (L : Nat) : kd (S0 L) 106 = 18 := id rfl
theorem rS_106_0 (L : Nat) : rfo (S0 L) 106 0 = some 107 := id rfl
theorem rS_106_3 (L : Nat) : rfo (S0 L) 106 3 = some 108 := id rfl
theorem rS_106_4 (L : Nat) : rfo (S0 L) 106 4 = some 109 := id rfl
theorem rS_106_5 (L : Nat) : rfo (S0 L) 106 5 = some 110 := id rfl
theorem rS_106_6 (L : Nat) : rfo (S0 L) 106 6 = some 111 := id rfl
theorem rS_106_7 (L : Nat) : rfo (S0 L) 106 7 = some 112 := id rfl
theorem rS_106_11 (L : Nat) : rfo (S0 L) 106 11 = some 113 := id rfl
theorem kS_107 (L : Nat) : kd (S0 L) 107 = 0 := id rfl
theorem lS_107 (L : Nat) : ln (S0 L) 107 = 1600 := id rfl
theorem kS_108 (L : Nat) : kd (S0 L) 108 = 1 := id rfl
theorem lS_108 (L : Nat) : ln (S0 L) 108 = 2 := id rfl
theorem kS_109 (L : Nat) : kd (S0 L) 109 = 0 := id rfl
theorem lS_109 (L : Nat) : ln (S0 L) 109 = 8 := id rfl
theorem kS_110 (L : Nat) : kd (S0 L) 110 = 0 := id rfl
theorem lS_110 (L : Nat) : ln (S0 L) 110 = 8 := id rfl
theorem kS_111 (L : Nat) : kd (S0 L) 111 = 0 := id rfl
theorem lS_111 (L : Nat) : ln (S0 L) 111 = 320 := id rfl
theorem kS_112 (L : Nat) : kd (S0 L) 112 = 0 := id rfl
theorem lS_112 (L : Nat) : ln (S0 L) 112 = 100 := id rfl
theorem kS_113 (L : Nat) : kd (S0 L) 113 = 0 := id rfl
theorem lS_113 (L : Nat) : ln (S0 L) 113 = 16 := id rfl
/-- the houses -/
def Hs (o : Nat) : Prop := o = 19 ∨ o = 27 ∨ o = 63 ∨ o = 72 ∨ o = 90 ∨ o = 98
theorem Hs_19 : Hs 19 := by unfold Hs; decide
theorem Hs_27 : Hs 27 := by unfold Hs; decide
theorem Hs_63 : Hs 63 := by unfold Hs; decide
theorem Hs_72 : Hs 72 := by unfold Hs; decide
theorem Hs_90 : Hs 90 := by unfold Hs; decide
theorem Hs_98 : Hs 98 := by unfold Hs; decide
theorem kH {o : Nat} (L : Nat) (h : Hs o) : kd (S0 L) o = 14 := by
  rcases h with rfl | rfl | rfl | rfl | rfl | rfl <;> rfl
theorem rH1 {o : Nat} (L : Nat) (h : Hs o) : rfo (S0 L) o 1 = some (o + 1) := by
  rcases h with rfl | rfl | rfl | rfl | rfl | rfl <;> rfl
theorem rH2 {o : Nat} (L : Nat) (h : Hs o) : rfo (S0 L) o 2 = some (o + 2) := by
  rcases h with rfl | rfl | rfl | rfl | rfl | rfl <;> rfl
theorem rH4 {o : Nat} (L : Nat) (h : Hs o) : rfo (S0 L) o 4 = some (o + 3) := by
  rcases h with rfl | rfl | rfl | rfl | rfl | rfl <;> rfl
theorem rH5 {o : Nat} (L : Nat) (h : Hs o) : rfo (S0 L) o 5 = some (o + 4) := by
  rcases h with rfl | rfl | rfl | rfl | rfl | rfl <;> rfl
theorem rH6 {o : Nat} (L : Nat) (h : Hs o) : rfo (S0 L) o 6 = some (o + 5) := by
  rcases h with rfl | rfl | rfl | rfl | rfl | rfl <;> rfl
theorem rH7 {o : Nat} (L : Nat) (h : Hs o) : rfo (S0 L) o 7 = some (o + 6) := by
  rcases h with rfl | rfl | rfl | rfl | rfl | rfl <;> rfl
theorem rH8 {o : Nat} (L : Nat) (h : Hs o) : rfo (S0 L) o 8 = some (o + 7) := by
  rcases h with rfl | rfl | rfl | rfl | rfl | rfl <;> rfl
theorem kH_1 {o : Nat} (L : Nat) (h : Hs o) : kd (S0 L) (o + 1) = 0 := by
  rcases h with rfl | rfl | rfl | rfl | rfl | rfl <;> rfl
theorem lH_1 {o : Nat} (L : Nat) (h : Hs o) : ln (S0 L) (o + 1) = 5 := by
  rcases h with rfl | rfl | rfl | rfl | rfl | rfl <;> rfl
theorem kH_2 {o : Nat} (L : Nat) (h : Hs o) : kd (S0 L) (o + 2) = 0 := by
  rcases h with rfl | rfl | rfl | rfl | rfl | rfl <;> rfl
theorem lH_2 {o : Nat} (L : Nat) (h : Hs o) : ln (S0 L) (o + 2) = 5 := by
  rcases h with rfl | rfl | rfl | rfl | rfl | rfl <;> rfl
theorem kH_3 {o : Nat} (L : Nat) (h : Hs o) : kd (S0 L) (o + 3) = 0 := by
  rcases h with rfl | rfl | rfl | rfl | rfl | rfl <;> rfl
theorem lH_3 {o : Nat} (L : Nat) (h : Hs o) : ln (S0 L) (o + 3) = 7 := by
  rcases h with rfl | rfl | rfl | rfl | rfl | rfl <;> rfl
theorem kH_4 {o : Nat} (L : Nat) (h : Hs o) : kd (S0 L) (o + 4) = 0 := by
  rcases h with rfl | rfl | rfl | rfl | rfl | rfl <;> rfl
theorem lH_4 {o : Nat} (L : Nat) (h : Hs o) : ln (S0 L) (o + 4) = 7 := by
  rcases h with rfl | rfl | rfl | rfl | rfl | rfl <;> rfl
theorem kH_5 {o : Nat} (L : Nat) (h : Hs o) : kd (S0 L) (o + 5) = 0 := by
  rcases h with rfl | rfl | rfl | rfl | rfl | rfl <;> rfl
theorem lH_5 {o : Nat} (L : Nat) (h : Hs o) : ln (S0 L) (o + 5) = 7 := by
  rcases h with rfl | rfl | rfl | rfl | rfl | rfl <;> rfl
theorem kH_6 {o : Nat} (L : Nat) (h : Hs o) : kd (S0 L) (o + 6) = 0 := by
  rcases h with rfl | rfl | rfl | rfl | rfl | rfl <;> rfl
theorem lH_6 {o : Nat} (L : Nat) (h : Hs o) : ln (S0 L) (o + 6) = 7 := by
  rcases h with rfl | rfl | rfl | rfl | rfl | rfl <;> rfl
theorem kH_7 {o : Nat} (L : Nat) (h : Hs o) : kd (S0 L) (o + 7) = 0 := by
  rcases h with rfl | rfl | rfl | rfl | rfl | rfl <;> rfl
theorem lH_7 {o : Nat} (L : Nat) (h : Hs o) : ln (S0 L) (o + 7) = 7 := by
  rcases h with rfl | rfl | rfl | rfl | rfl | rfl <;> rfl
theorem grI (L : Nat) {j : Nat} (h : j < 8) : rfo (S0 L) 6 j = some (7 + j) ∧ kd (S0 L) (7 + j) = 0 ∧ ln (S0 L) (7 + j) = 40 := by
  rcases (show j = 0 ∨ j = 1 ∨ j = 2 ∨ j = 3 ∨ j = 4 ∨ j = 5 ∨ j = 6 ∨ j = 7 by omega) with rfl | rfl | rfl | rfl | rfl | rfl | rfl | rfl <;> exact ⟨rfl, rfl, rfl⟩
theorem grN (L : Nat) {j : Nat} (h : j < 24) : rfo (S0 L) 37 j = some (38 + j) ∧ kd (S0 L) (38 + j) = 0 ∧ ln (S0 L) (38 + j) = 20 := by
  rcases (show j = 0 ∨ j = 1 ∨ j = 2 ∨ j = 3 ∨ j = 4 ∨ j = 5 ∨ j = 6 ∨ j = 7 ∨ j = 8 ∨ j = 9 ∨ j = 10 ∨ j = 11 ∨ j = 12 ∨ j = 13 ∨ j = 14 ∨ j = 15 ∨ j = 16 ∨ j = 17 ∨ j = 18 ∨ j = 19 ∨ j = 20 ∨ j = 21 ∨ j = 22 ∨ j = 23 by omega) with rfl | rfl | rfl | rfl | rfl | rfl | rfl | rfl | rfl | rfl | rfl | rfl | rfl | rfl | rfl | rfl | rfl | rfl | rfl | rfl | rfl | rfl | rfl | rfl <;> exact ⟨rfl, rfl, rfl⟩
theorem grW (L : Nat) {j : Nat} (h : j < 7) : rfo (S0 L) 80 j = some (81 + j) ∧ kd (S0 L) (81 + j) = 0 ∧ ln (S0 L) (81 + j) = 5 := by
  rcases (show j = 0 ∨ j = 1 ∨ j = 2 ∨ j = 3 ∨ j = 4 ∨ j = 5 ∨ j = 6 by omega) with rfl | rfl | rfl | rfl | rfl | rfl | rfl <;> exact ⟨rfl, rfl, rfl⟩
theorem grM (L : Nat) {j : Nat} (h : j < 2) : rfo (S0 L) 35 j = some (90 + 8 * j) := by
  rcases (show j = 0 ∨ j = 1 by omega) with rfl | rfl <;> rfl
