/-! THE CONSTRUCTORS. -/
abbrev dfX0 : List tw_V := [vV .null, vI 0, vV .null, vV .null, vI 0, vI 0]
abbrev dfX1 : List tw_V := [vV .null, vV .null, vL 0, vL 0]
abbrev dfX2 : List tw_V := [vI 0, vI 0, vI 0, vI 0, vI 0, vI 0]
abbrev dfX3 : List tw_V := [vV .null, vV .null, vV .null, vV .null, vI 0, vI 0, vI 0]
abbrev dfX4 : List tw_V := [vV .null, vV .null, vI 0, vI 0, vI 0, vI 0]
abbrev dfX5 : List tw_V := [vV .null, vV .null, vV .null, vV .null, vV .null, vI 0, vI 0, vI 0, vI 0, vV .null, vI 0, vI 0, vI 0, vI 0]
abbrev dfX6 : List tw_V := [vV .null, vI 0, vV .null, vV .null, vV .null, vV .null, vI 0, vI 0]
abbrev dfX7 : List tw_V := [vI 0, vV .null, vV .null, vV .null]
abbrev dfX8 : List tw_V := [vV .null, vI 0, vI 0, vI 0]
abbrev dfX9 : List tw_V := [vV .null, vV .null, vV .null, vI 0, vI 0, vI 0, vI 0, vI 0, vI 0, vV .null, vI 0, vI 0, vI 0, vI 0]
abbrev dfX10 : List tw_V := [vV .null, vV .null, vV .null, vV .null, vV .null, vV .null, vV .null, vV .null]
abbrev dfX11 : List tw_V := [vV .null, vV .null, vV .null, vV .null, vV .null, vV .null, vV .null, vV .null, vV .null, vV .null, vV .null, vV .null, vV .null, vI 0, vI 0]
abbrev dfX12 : List tw_V := [vV .null, vV .null, vV .null, vV .null, vV .null, vV .null, vV .null, vV .null, vV .null, vI 0, vI 0, vV .null, vI 0, vI 0, vI 0, vI 0, vI 0, vI 0, vI 0, vI 0, vI 0, vI 0, vI 0, vI 0, vI 0, vI 0, vI 0, vI 0, vV .null, vV .null, vI 0, vV .null, vV .null, vV .null, vI 0, vV .null, vV .null, vV .null, vI 0]
theorem dX0_init_0 : decode cX0_init 0 = .ok (.aload_n 0, 1) := by decide +kernel
theorem dX0_init_1 : decode cX0_init 1 = .ok (.invokespecial 3, 3) := by decide +kernel
theorem dX0_init_4 : decode cX0_init 4 = .ok (.aload_n 0, 1) := by decide +kernel
theorem dX0_init_5 : decode cX0_init 5 = .ok (.iconst 0, 1) := by decide +kernel
theorem dX0_init_6 : decode cX0_init 6 = .ok (.putfield 9, 3) := by decide +kernel
theorem dX0_init_9 : decode cX0_init 9 = .ok (.aload_n 0, 1) := by decide +kernel
theorem dX0_init_10 : decode cX0_init 10 = .ok (.bipush 41, 2) := by decide +kernel
theorem dX0_init_12 : decode cX0_init 12 = .ok (.newarray .int, 2) := by decide +kernel
theorem dX0_init_14 : decode cX0_init 14 = .ok (.putfield 15, 3) := by decide +kernel
theorem dX0_init_17 : decode cX0_init 17 = .ok (.aload_n 0, 1) := by decide +kernel
theorem dX0_init_18 : decode cX0_init 18 = .ok (.bipush 40, 2) := by decide +kernel
theorem dX0_init_20 : decode cX0_init 20 = .ok (.newarray .int, 2) := by decide +kernel
theorem dX0_init_22 : decode cX0_init 22 = .ok (.putfield 19, 3) := by decide +kernel
theorem dX0_init_25 : decode cX0_init 25 = .ok (.aload_n 0, 1) := by decide +kernel
theorem dX0_init_26 : decode cX0_init 26 = .ok (.iconst 0, 1) := by decide +kernel
theorem dX0_init_27 : decode cX0_init 27 = .ok (.putfield 22, 3) := by decide +kernel
theorem dX0_init_30 : decode cX0_init 30 = .ok (.aload_n 0, 1) := by decide +kernel
theorem dX0_init_31 : decode cX0_init 31 = .ok (.iconst 0, 1) := by decide +kernel
theorem dX0_init_32 : decode cX0_init 32 = .ok (.putfield 26, 3) := by decide +kernel
theorem dX0_init_35 : decode cX0_init 35 = .ok (.aload_n 0, 1) := by decide +kernel
theorem dX0_init_36 : decode cX0_init 36 = .ok (.aload_n 1, 1) := by decide +kernel
theorem dX0_init_37 : decode cX0_init 37 = .ok (.putfield 29, 3) := by decide +kernel
theorem dX0_init_40 : decode cX0_init 40 = .ok (.return_, 1) := by decide +kernel
theorem dX1_init_0 : decode cX1_init 0 = .ok (.aload_n 0, 1) := by decide +kernel
theorem dX1_init_1 : decode cX1_init 1 = .ok (.invokespecial 3, 3) := by decide +kernel
theorem dX1_init_4 : decode cX1_init 4 = .ok (.aload_n 0, 1) := by decide +kernel
theorem dX1_init_5 : decode cX1_init 5 = .ok (.new 9, 3) := by decide +kernel
theorem dX1_init_8 : decode cX1_init 8 = .ok (.dup, 1) := by decide +kernel
theorem dX1_init_9 : decode cX1_init 9 = .ok (.invokespecial 11, 3) := by decide +kernel
theorem dX1_init_12 : decode cX1_init 12 = .ok (.putfield 12, 3) := by decide +kernel
theorem dX1_init_15 : decode cX1_init 15 = .ok (.aload_n 0, 1) := by decide +kernel
theorem dX1_init_16 : decode cX1_init 16 = .ok (.lconst 0, 1) := by decide +kernel
theorem dX1_init_17 : decode cX1_init 17 = .ok (.putfield 18, 3) := by decide +kernel
theorem dX1_init_20 : decode cX1_init 20 = .ok (.aload_n 0, 1) := by decide +kernel
theorem dX1_init_21 : decode cX1_init 21 = .ok (.lconst 1, 1) := by decide +kernel
theorem dX1_init_22 : decode cX1_init 22 = .ok (.putfield 22, 3) := by decide +kernel
theorem dX1_init_25 : decode cX1_init 25 = .ok (.aload_n 0, 1) := by decide +kernel
theorem dX1_init_26 : decode cX1_init 26 = .ok (.aload_n 1, 1) := by decide +kernel
theorem dX1_init_27 : decode cX1_init 27 = .ok (.putfield 25, 3) := by decide +kernel
theorem dX1_init_30 : decode cX1_init 30 = .ok (.return_, 1) := by decide +kernel
theorem dX2_init_0 : decode cX2_init 0 = .ok (.aload_n 0, 1) := by decide +kernel
theorem dX2_init_1 : decode cX2_init 1 = .ok (.invokespecial 3, 3) := by decide +kernel
theorem dX2_init_4 : decode cX2_init 4 = .ok (.aload_n 0, 1) := by decide +kernel
theorem dX2_init_5 : decode cX2_init 5 = .ok (.iconst 0, 1) := by decide +kernel
theorem dX2_init_6 : decode cX2_init 6 = .ok (.putfield 9, 3) := by decide +kernel
theorem dX2_init_9 : decode cX2_init 9 = .ok (.aload_n 0, 1) := by decide +kernel
theorem dX2_init_10 : decode cX2_init 10 = .ok (.bipush (-4), 2) := by decide +kernel
theorem dX2_init_12 : decode cX2_init 12 = .ok (.putfield 15, 3) := by decide +kernel
theorem dX2_init_15 : decode cX2_init 15 = .ok (.aload_n 0, 1) := by decide +kernel
theorem dX2_init_16 : decode cX2_init 16 = .ok (.iconst 0, 1) := by decide +kernel
theorem dX2_init_17 : decode cX2_init 17 = .ok (.putfield 18, 3) := by decide +kernel
theorem dX2_init_20 : decode cX2_init 20 = .ok (.aload_n 0, 1) := by decide +kernel
theorem dX2_init_21 : decode cX2_init 21 = .ok (.iconst 0, 1) := by decide +kernel
theorem dX2_init_22 : decode cX2_init 22 = .ok (.putfield 21, 3) := by decide +kernel
theorem dX2_init_25 : decode cX2_init 25 = .ok (.aload_n 0, 1) := by decide +kernel
theorem dX2_init_26 : decode cX2_init 26 = .ok (.bipush (-4), 2) := by decide +kernel
theorem dX2_init_28 : decode cX2_init 28 = .ok (.putfield 24, 3) := by decide +kernel
theorem dX2_init_31 : decode cX2_init 31 = .ok (.aload_n 0, 1) := by decide +kernel
theorem dX2_init_32 : decode cX2_init 32 = .ok (.iconst 0, 1) := by decide +kernel
theorem dX2_init_33 : decode cX2_init 33 = .ok (.putfield 27, 3) := by decide +kernel
theorem dX2_init_36 : decode cX2_init 36 = .ok (.return_, 1) := by decide +kernel
theorem dX3_init_0 : decode cX3_init 0 = .ok (.aload_n 0, 1) := by decide +kernel
theorem dX3_init_1 : decode cX3_init 1 = .ok (.invokespecial 3, 3) := by decide +kernel
theorem dX3_init_4 : decode cX3_init 4 = .ok (.aload_n 0, 1) := by decide +kernel
theorem dX3_init_5 : decode cX3_init 5 = .ok (.new 9, 3) := by decide +kernel
theorem dX3_init_8 : decode cX3_init 8 = .ok (.dup, 1) := by decide +kernel
theorem dX3_init_9 : decode cX3_init 9 = .ok (.invokespecial 11, 3) := by decide +kernel
theorem dX3_init_12 : decode cX3_init 12 = .ok (.putfield 12, 3) := by decide +kernel
theorem dX3_init_15 : decode cX3_init 15 = .ok (.aload_n 0, 1) := by decide +kernel
theorem dX3_init_16 : decode cX3_init 16 = .ok (.bipush 11, 2) := by decide +kernel
theorem dX3_init_18 : decode cX3_init 18 = .ok (.newarray .int, 2) := by decide +kernel
theorem dX3_init_20 : decode cX3_init 20 = .ok (.putfield 18, 3) := by decide +kernel
theorem dX3_init_23 : decode cX3_init 23 = .ok (.aload_n 0, 1) := by decide +kernel
theorem dX3_init_24 : decode cX3_init 24 = .ok (.iconst 2, 1) := by decide +kernel
theorem dX3_init_25 : decode cX3_init 25 = .ok (.newarray .int, 2) := by decide +kernel
theorem dX3_init_27 : decode cX3_init 27 = .ok (.putfield 22, 3) := by decide +kernel
theorem dX3_init_30 : decode cX3_init 30 = .ok (.aload_n 0, 1) := by decide +kernel
theorem dX3_init_31 : decode cX3_init 31 = .ok (.iconst 2, 1) := by decide +kernel
theorem dX3_init_32 : decode cX3_init 32 = .ok (.newarray .int, 2) := by decide +kernel
theorem dX3_init_34 : decode cX3_init 34 = .ok (.putfield 25, 3) := by decide +kernel
theorem dX3_init_37 : decode cX3_init 37 = .ok (.aload_n 0, 1) := by decide +kernel
theorem dX3_init_38 : decode cX3_init 38 = .ok (.iconst 0, 1) := by decide +kernel
theorem dX3_init_39 : decode cX3_init 39 = .ok (.putfield 28, 3) := by decide +kernel
theorem dX3_init_42 : decode cX3_init 42 = .ok (.aload_n 0, 1) := by decide +kernel
theorem dX3_init_43 : decode cX3_init 43 = .ok (.iconst 0, 1) := by decide +kernel
theorem dX3_init_44 : decode cX3_init 44 = .ok (.putfield 32, 3) := by decide +kernel
theorem dX3_init_47 : decode cX3_init 47 = .ok (.aload_n 0, 1) := by decide +kernel
theorem dX3_init_48 : decode cX3_init 48 = .ok (.iconst 0, 1) := by decide +kernel
theorem dX3_init_49 : decode cX3_init 49 = .ok (.putfield 35, 3) := by decide +kernel
theorem dX3_init_52 : decode cX3_init 52 = .ok (.return_, 1) := by decide +kernel
theorem dX4_init_0 : decode cX4_init 0 = .ok (.aload_n 0, 1) := by decide +kernel
theorem dX4_init_1 : decode cX4_init 1 = .ok (.invokespecial 1, 3) := by decide +kernel
theorem dX4_init_4 : decode cX4_init 4 = .ok (.aload_n 0, 1) := by decide +kernel
theorem dX4_init_5 : decode cX4_init 5 = .ok (.new 7, 3) := by decide +kernel
theorem dX4_init_8 : decode cX4_init 8 = .ok (.dup, 1) := by decide +kernel
theorem dX4_init_9 : decode cX4_init 9 = .ok (.invokespecial 9, 3) := by decide +kernel
theorem dX4_init_12 : decode cX4_init 12 = .ok (.putfield 10, 3) := by decide +kernel
theorem dX4_init_15 : decode cX4_init 15 = .ok (.aload_n 0, 1) := by decide +kernel
theorem dX4_init_16 : decode cX4_init 16 = .ok (.iconst 0, 1) := by decide +kernel
theorem dX4_init_17 : decode cX4_init 17 = .ok (.putfield 16, 3) := by decide +kernel
theorem dX4_init_20 : decode cX4_init 20 = .ok (.aload_n 0, 1) := by decide +kernel
theorem dX4_init_21 : decode cX4_init 21 = .ok (.iconst 0, 1) := by decide +kernel
theorem dX4_init_22 : decode cX4_init 22 = .ok (.putfield 20, 3) := by decide +kernel
theorem dX4_init_25 : decode cX4_init 25 = .ok (.aload_n 0, 1) := by decide +kernel
theorem dX4_init_26 : decode cX4_init 26 = .ok (.iconst 0, 1) := by decide +kernel
theorem dX4_init_27 : decode cX4_init 27 = .ok (.putfield 23, 3) := by decide +kernel
theorem dX4_init_30 : decode cX4_init 30 = .ok (.aload_n 0, 1) := by decide +kernel
theorem dX4_init_31 : decode cX4_init 31 = .ok (.iconst 0, 1) := by decide +kernel
theorem dX4_init_32 : decode cX4_init 32 = .ok (.putfield 26, 3) := by decide +kernel
theorem dX4_init_35 : decode cX4_init 35 = .ok (.aload_n 0, 1) := by decide +kernel
theorem dX4_init_36 : decode cX4_init 36 = .ok (.aload_n 1, 1) := by decide +kernel
theorem dX4_init_37 : decode cX4_init 37 = .ok (.putfield 29, 3) := by decide +kernel
theorem dX4_init_40 : decode cX4_init 40 = .ok (.return_, 1) := by decide +kernel
theorem dX5_init_0 : decode cX5_init 0 = .ok (.aload_n 0, 1) := by decide +kernel
theorem dX5_init_1 : decode cX5_init 1 = .ok (.invokespecial 3, 3) := by decide +kernel
theorem dX5_init_4 : decode cX5_init 4 = .ok (.aload_n 0, 1) := by decide +kernel
theorem dX5_init_5 : decode cX5_init 5 = .ok (.new 9, 3) := by decide +kernel
theorem dX5_init_8 : decode cX5_init 8 = .ok (.dup, 1) := by decide +kernel
theorem dX5_init_9 : decode cX5_init 9 = .ok (.invokespecial 11, 3) := by decide +kernel
theorem dX5_init_12 : decode cX5_init 12 = .ok (.putfield 12, 3) := by decide +kernel
theorem dX5_init_15 : decode cX5_init 15 = .ok (.aload_n 0, 1) := by decide +kernel
theorem dX5_init_16 : decode cX5_init 16 = .ok (.bipush 11, 2) := by decide +kernel
theorem dX5_init_18 : decode cX5_init 18 = .ok (.newarray .int, 2) := by decide +kernel
theorem dX5_init_20 : decode cX5_init 20 = .ok (.putfield 18, 3) := by decide +kernel
theorem dX5_init_23 : decode cX5_init 23 = .ok (.aload_n 0, 1) := by decide +kernel
theorem dX5_init_24 : decode cX5_init 24 = .ok (.bipush 10, 2) := by decide +kernel
theorem dX5_init_26 : decode cX5_init 26 = .ok (.newarray .int, 2) := by decide +kernel
theorem dX5_init_28 : decode cX5_init 28 = .ok (.putfield 22, 3) := by decide +kernel
theorem dX5_init_31 : decode cX5_init 31 = .ok (.aload_n 0, 1) := by decide +kernel
theorem dX5_init_32 : decode cX5_init 32 = .ok (.iconst 0, 1) := by decide +kernel
theorem dX5_init_33 : decode cX5_init 33 = .ok (.putfield 25, 3) := by decide +kernel
theorem dX5_init_36 : decode cX5_init 36 = .ok (.aload_n 0, 1) := by decide +kernel
theorem dX5_init_37 : decode cX5_init 37 = .ok (.iconst 0, 1) := by decide +kernel
theorem dX5_init_38 : decode cX5_init 38 = .ok (.putfield 29, 3) := by decide +kernel
theorem dX5_init_41 : decode cX5_init 41 = .ok (.aload_n 0, 1) := by decide +kernel
theorem dX5_init_42 : decode cX5_init 42 = .ok (.iconst 0, 1) := by decide +kernel
theorem dX5_init_43 : decode cX5_init 43 = .ok (.putfield 33, 3) := by decide +kernel
theorem dX5_init_46 : decode cX5_init 46 = .ok (.aload_n 0, 1) := by decide +kernel
theorem dX5_init_47 : decode cX5_init 47 = .ok (.iconst 0, 1) := by decide +kernel
theorem dX5_init_48 : decode cX5_init 48 = .ok (.putfield 36, 3) := by decide +kernel
theorem dX5_init_51 : decode cX5_init 51 = .ok (.aload_n 0, 1) := by decide +kernel
theorem dX5_init_52 : decode cX5_init 52 = .ok (.new 9, 3) := by decide +kernel
theorem dX5_init_55 : decode cX5_init 55 = .ok (.dup, 1) := by decide +kernel
theorem dX5_init_56 : decode cX5_init 56 = .ok (.invokespecial 11, 3) := by decide +kernel
theorem dX5_init_59 : decode cX5_init 59 = .ok (.putfield 39, 3) := by decide +kernel
theorem dX5_init_62 : decode cX5_init 62 = .ok (.aload_n 0, 1) := by decide +kernel
theorem dX5_init_63 : decode cX5_init 63 = .ok (.iconst 0, 1) := by decide +kernel
theorem dX5_init_64 : decode cX5_init 64 = .ok (.putfield 42, 3) := by decide +kernel
theorem dX5_init_67 : decode cX5_init 67 = .ok (.aload_n 0, 1) := by decide +kernel
theorem dX5_init_68 : decode cX5_init 68 = .ok (.iconst 0, 1) := by decide +kernel
theorem dX5_init_69 : decode cX5_init 69 = .ok (.putfield 45, 3) := by decide +kernel
theorem dX5_init_72 : decode cX5_init 72 = .ok (.aload_n 0, 1) := by decide +kernel
theorem dX5_init_73 : decode cX5_init 73 = .ok (.iconst 0, 1) := by decide +kernel
theorem dX5_init_74 : decode cX5_init 74 = .ok (.putfield 48, 3) := by decide +kernel
theorem dX5_init_77 : decode cX5_init 77 = .ok (.aload_n 0, 1) := by decide +kernel
theorem dX5_init_78 : decode cX5_init 78 = .ok (.iconst 0, 1) := by decide +kernel
theorem dX5_init_79 : decode cX5_init 79 = .ok (.putfield 51, 3) := by decide +kernel
theorem dX5_init_82 : decode cX5_init 82 = .ok (.aload_n 0, 1) := by decide +kernel
theorem dX5_init_83 : decode cX5_init 83 = .ok (.aload_n 1, 1) := by decide +kernel
theorem dX5_init_84 : decode cX5_init 84 = .ok (.putfield 54, 3) := by decide +kernel
theorem dX5_init_87 : decode cX5_init 87 = .ok (.aload_n 0, 1) := by decide +kernel
theorem dX5_init_88 : decode cX5_init 88 = .ok (.aload_n 2, 1) := by decide +kernel
theorem dX5_init_89 : decode cX5_init 89 = .ok (.putfield 58, 3) := by decide +kernel
theorem dX5_init_92 : decode cX5_init 92 = .ok (.return_, 1) := by decide +kernel
theorem dX6_init_0 : decode cX6_init 0 = .ok (.aload_n 0, 1) := by decide +kernel
theorem dX6_init_1 : decode cX6_init 1 = .ok (.invokespecial 3, 3) := by decide +kernel
theorem dX6_init_4 : decode cX6_init 4 = .ok (.aload_n 0, 1) := by decide +kernel
theorem dX6_init_5 : decode cX6_init 5 = .ok (.iconst 0, 1) := by decide +kernel
theorem dX6_init_6 : decode cX6_init 6 = .ok (.putfield 9, 3) := by decide +kernel
theorem dX6_init_9 : decode cX6_init 9 = .ok (.aload_n 0, 1) := by decide +kernel
theorem dX6_init_10 : decode cX6_init 10 = .ok (.bipush 41, 2) := by decide +kernel
theorem dX6_init_12 : decode cX6_init 12 = .ok (.newarray .int, 2) := by decide +kernel
theorem dX6_init_14 : decode cX6_init 14 = .ok (.putfield 15, 3) := by decide +kernel
theorem dX6_init_17 : decode cX6_init 17 = .ok (.aload_n 0, 1) := by decide +kernel
theorem dX6_init_18 : decode cX6_init 18 = .ok (.bipush 41, 2) := by decide +kernel
theorem dX6_init_20 : decode cX6_init 20 = .ok (.newarray .int, 2) := by decide +kernel
theorem dX6_init_22 : decode cX6_init 22 = .ok (.putfield 19, 3) := by decide +kernel
theorem dX6_init_25 : decode cX6_init 25 = .ok (.aload_n 0, 1) := by decide +kernel
theorem dX6_init_26 : decode cX6_init 26 = .ok (.bipush 40, 2) := by decide +kernel
theorem dX6_init_28 : decode cX6_init 28 = .ok (.newarray .int, 2) := by decide +kernel
theorem dX6_init_30 : decode cX6_init 30 = .ok (.putfield 22, 3) := by decide +kernel
theorem dX6_init_33 : decode cX6_init 33 = .ok (.aload_n 0, 1) := by decide +kernel
theorem dX6_init_34 : decode cX6_init 34 = .ok (.bipush 40, 2) := by decide +kernel
theorem dX6_init_36 : decode cX6_init 36 = .ok (.newarray .int, 2) := by decide +kernel
theorem dX6_init_38 : decode cX6_init 38 = .ok (.putfield 25, 3) := by decide +kernel
theorem dX6_init_41 : decode cX6_init 41 = .ok (.aload_n 0, 1) := by decide +kernel
theorem dX6_init_42 : decode cX6_init 42 = .ok (.iconst 0, 1) := by decide +kernel
theorem dX6_init_43 : decode cX6_init 43 = .ok (.putfield 28, 3) := by decide +kernel
theorem dX6_init_46 : decode cX6_init 46 = .ok (.aload_n 0, 1) := by decide +kernel
theorem dX6_init_47 : decode cX6_init 47 = .ok (.iconst 0, 1) := by decide +kernel
theorem dX6_init_48 : decode cX6_init 48 = .ok (.putfield 32, 3) := by decide +kernel
theorem dX6_init_51 : decode cX6_init 51 = .ok (.aload_n 0, 1) := by decide +kernel
theorem dX6_init_52 : decode cX6_init 52 = .ok (.aload_n 1, 1) := by decide +kernel
theorem dX6_init_53 : decode cX6_init 53 = .ok (.putfield 35, 3) := by decide +kernel
theorem dX6_init_56 : decode cX6_init 56 = .ok (.return_, 1) := by decide +kernel
theorem dX7_init_0 : decode cX7_init 0 = .ok (.aload_n 0, 1) := by decide +kernel
theorem dX7_init_1 : decode cX7_init 1 = .ok (.invokespecial 3, 3) := by decide +kernel
theorem dX7_init_4 : decode cX7_init 4 = .ok (.aload_n 0, 1) := by decide +kernel
theorem dX7_init_5 : decode cX7_init 5 = .ok (.iconst 0, 1) := by decide +kernel
theorem dX7_init_6 : decode cX7_init 6 = .ok (.putfield 9, 3) := by decide +kernel
theorem dX7_init_9 : decode cX7_init 9 = .ok (.aload_n 0, 1) := by decide +kernel
theorem dX7_init_10 : decode cX7_init 10 = .ok (.bipush 10, 2) := by decide +kernel
theorem dX7_init_12 : decode cX7_init 12 = .ok (.newarray .int, 2) := by decide +kernel
theorem dX7_init_14 : decode cX7_init 14 = .ok (.putfield 15, 3) := by decide +kernel
theorem dX7_init_17 : decode cX7_init 17 = .ok (.aload_n 0, 1) := by decide +kernel
theorem dX7_init_18 : decode cX7_init 18 = .ok (.bipush 10, 2) := by decide +kernel
theorem dX7_init_20 : decode cX7_init 20 = .ok (.newarray .int, 2) := by decide +kernel
theorem dX7_init_22 : decode cX7_init 22 = .ok (.putfield 19, 3) := by decide +kernel
theorem dX7_init_25 : decode cX7_init 25 = .ok (.aload_n 0, 1) := by decide +kernel
theorem dX7_init_26 : decode cX7_init 26 = .ok (.bipush 10, 2) := by decide +kernel
theorem dX7_init_28 : decode cX7_init 28 = .ok (.newarray .int, 2) := by decide +kernel
theorem dX7_init_30 : decode cX7_init 30 = .ok (.putfield 22, 3) := by decide +kernel
theorem dX7_init_33 : decode cX7_init 33 = .ok (.return_, 1) := by decide +kernel
theorem dX8_init_0 : decode cX8_init 0 = .ok (.aload_n 0, 1) := by decide +kernel
theorem dX8_init_1 : decode cX8_init 1 = .ok (.invokespecial 3, 3) := by decide +kernel
theorem dX8_init_4 : decode cX8_init 4 = .ok (.aload_n 0, 1) := by decide +kernel
theorem dX8_init_5 : decode cX8_init 5 = .ok (.bipush 40, 2) := by decide +kernel
theorem dX8_init_7 : decode cX8_init 7 = .ok (.newarray .int, 2) := by decide +kernel
theorem dX8_init_9 : decode cX8_init 9 = .ok (.putfield 9, 3) := by decide +kernel
theorem dX8_init_12 : decode cX8_init 12 = .ok (.aload_n 0, 1) := by decide +kernel
theorem dX8_init_13 : decode cX8_init 13 = .ok (.iconst 0, 1) := by decide +kernel
theorem dX8_init_14 : decode cX8_init 14 = .ok (.putfield 15, 3) := by decide +kernel
theorem dX8_init_17 : decode cX8_init 17 = .ok (.aload_n 0, 1) := by decide +kernel
theorem dX8_init_18 : decode cX8_init 18 = .ok (.iconst 0, 1) := by decide +kernel
theorem dX8_init_19 : decode cX8_init 19 = .ok (.putfield 19, 3) := by decide +kernel
theorem dX8_init_22 : decode cX8_init 22 = .ok (.aload_n 0, 1) := by decide +kernel
theorem dX8_init_23 : decode cX8_init 23 = .ok (.iconst 0, 1) := by decide +kernel
theorem dX8_init_24 : decode cX8_init 24 = .ok (.putfield 23, 3) := by decide +kernel
theorem dX8_init_27 : decode cX8_init 27 = .ok (.return_, 1) := by decide +kernel
theorem dX9_init_0 : decode cX9_init 0 = .ok (.aload_n 0, 1) := by decide +kernel
theorem dX9_init_1 : decode cX9_init 1 = .ok (.invokespecial 3, 3) := by decide +kernel
theorem dX9_init_4 : decode cX9_init 4 = .ok (.aload_n 0, 1) := by decide +kernel
theorem dX9_init_5 : decode cX9_init 5 = .ok (.sipush 400, 3) := by decide +kernel
theorem dX9_init_8 : decode cX9_init 8 = .ok (.newarray .byte, 2) := by decide +kernel
theorem dX9_init_10 : decode cX9_init 10 = .ok (.putfield 9, 3) := by decide +kernel
theorem dX9_init_13 : decode cX9_init 13 = .ok (.aload_n 0, 1) := by decide +kernel
theorem dX9_init_14 : decode cX9_init 14 = .ok (.bipush 41, 2) := by decide +kernel
theorem dX9_init_16 : decode cX9_init 16 = .ok (.newarray .boolean, 2) := by decide +kernel
theorem dX9_init_18 : decode cX9_init 18 = .ok (.putfield 15, 3) := by decide +kernel
theorem dX9_init_21 : decode cX9_init 21 = .ok (.aload_n 0, 1) := by decide +kernel
theorem dX9_init_22 : decode cX9_init 22 = .ok (.bipush 11, 2) := by decide +kernel
theorem dX9_init_24 : decode cX9_init 24 = .ok (.newarray .boolean, 2) := by decide +kernel
theorem dX9_init_26 : decode cX9_init 26 = .ok (.putfield 19, 3) := by decide +kernel
theorem dX9_init_29 : decode cX9_init 29 = .ok (.aload_n 0, 1) := by decide +kernel
theorem dX9_init_30 : decode cX9_init 30 = .ok (.new 22, 3) := by decide +kernel
theorem dX9_init_33 : decode cX9_init 33 = .ok (.dup, 1) := by decide +kernel
theorem dX9_init_34 : decode cX9_init 34 = .ok (.invokespecial 24, 3) := by decide +kernel
theorem dX9_init_37 : decode cX9_init 37 = .ok (.putfield 25, 3) := by decide +kernel
theorem dX9_init_40 : decode cX9_init 40 = .ok (.aload_n 0, 1) := by decide +kernel
theorem dX9_init_41 : decode cX9_init 41 = .ok (.iconst 0, 1) := by decide +kernel
theorem dX9_init_42 : decode cX9_init 42 = .ok (.putfield 29, 3) := by decide +kernel
theorem dX9_init_45 : decode cX9_init 45 = .ok (.aload_n 0, 1) := by decide +kernel
theorem dX9_init_46 : decode cX9_init 46 = .ok (.iconst 0, 1) := by decide +kernel
theorem dX9_init_47 : decode cX9_init 47 = .ok (.putfield 33, 3) := by decide +kernel
theorem dX9_init_50 : decode cX9_init 50 = .ok (.aload_n 0, 1) := by decide +kernel
theorem dX9_init_51 : decode cX9_init 51 = .ok (.iconst 0, 1) := by decide +kernel
theorem dX9_init_52 : decode cX9_init 52 = .ok (.putfield 36, 3) := by decide +kernel
theorem dX9_init_55 : decode cX9_init 55 = .ok (.aload_n 0, 1) := by decide +kernel
theorem dX9_init_56 : decode cX9_init 56 = .ok (.iconst 0, 1) := by decide +kernel
theorem dX9_init_57 : decode cX9_init 57 = .ok (.putfield 39, 3) := by decide +kernel
theorem dX9_init_60 : decode cX9_init 60 = .ok (.return_, 1) := by decide +kernel
theorem dX10_init_0 : decode cX10_init 0 = .ok (.aload_n 0, 1) := by decide +kernel
theorem dX10_init_1 : decode cX10_init 1 = .ok (.invokespecial 3, 3) := by decide +kernel
theorem dX10_init_4 : decode cX10_init 4 = .ok (.aload_n 0, 1) := by decide +kernel
theorem dX10_init_5 : decode cX10_init 5 = .ok (.bipush 9, 2) := by decide +kernel
theorem dX10_init_7 : decode cX10_init 7 = .ok (.newarray .int, 2) := by decide +kernel
theorem dX10_init_9 : decode cX10_init 9 = .ok (.putfield 11, 3) := by decide +kernel
theorem dX10_init_12 : decode cX10_init 12 = .ok (.aload_n 0, 1) := by decide +kernel
theorem dX10_init_13 : decode cX10_init 13 = .ok (.bipush 11, 2) := by decide +kernel
theorem dX10_init_15 : decode cX10_init 15 = .ok (.newarray .int, 2) := by decide +kernel
theorem dX10_init_17 : decode cX10_init 17 = .ok (.putfield 15, 3) := by decide +kernel
theorem dX10_init_20 : decode cX10_init 20 = .ok (.aload_n 0, 1) := by decide +kernel
theorem dX10_init_21 : decode cX10_init 21 = .ok (.bipush 41, 2) := by decide +kernel
theorem dX10_init_23 : decode cX10_init 23 = .ok (.newarray .int, 2) := by decide +kernel
theorem dX10_init_25 : decode cX10_init 25 = .ok (.putfield 18, 3) := by decide +kernel
theorem dX10_init_28 : decode cX10_init 28 = .ok (.aload_n 0, 1) := by decide +kernel
theorem dX10_init_29 : decode cX10_init 29 = .ok (.bipush 41, 2) := by decide +kernel
theorem dX10_init_31 : decode cX10_init 31 = .ok (.newarray .int, 2) := by decide +kernel
theorem dX10_init_33 : decode cX10_init 33 = .ok (.putfield 21, 3) := by decide +kernel
theorem dX10_init_36 : decode cX10_init 36 = .ok (.aload_n 0, 1) := by decide +kernel
theorem dX10_init_37 : decode cX10_init 37 = .ok (.bipush 41, 2) := by decide +kernel
theorem dX10_init_39 : decode cX10_init 39 = .ok (.newarray .int, 2) := by decide +kernel
theorem dX10_init_41 : decode cX10_init 41 = .ok (.putfield 24, 3) := by decide +kernel
theorem dX10_init_44 : decode cX10_init 44 = .ok (.aload_n 0, 1) := by decide +kernel
theorem dX10_init_45 : decode cX10_init 45 = .ok (.bipush 41, 2) := by decide +kernel
theorem dX10_init_47 : decode cX10_init 47 = .ok (.newarray .int, 2) := by decide +kernel
theorem dX10_init_49 : decode cX10_init 49 = .ok (.putfield 27, 3) := by decide +kernel
theorem dX10_init_52 : decode cX10_init 52 = .ok (.aload_n 0, 1) := by decide +kernel
theorem dX10_init_53 : decode cX10_init 53 = .ok (.bipush 41, 2) := by decide +kernel
theorem dX10_init_55 : decode cX10_init 55 = .ok (.newarray .int, 2) := by decide +kernel
theorem dX10_init_57 : decode cX10_init 57 = .ok (.putfield 30, 3) := by decide +kernel
theorem dX10_init_60 : decode cX10_init 60 = .ok (.aload_n 0, 1) := by decide +kernel
theorem dX10_init_61 : decode cX10_init 61 = .ok (.bipush 41, 2) := by decide +kernel
theorem dX10_init_63 : decode cX10_init 63 = .ok (.newarray .int, 2) := by decide +kernel
theorem dX10_init_65 : decode cX10_init 65 = .ok (.putfield 33, 3) := by decide +kernel
theorem dX10_init_68 : decode cX10_init 68 = .ok (.aload_n 0, 1) := by decide +kernel
theorem dX10_init_69 : decode cX10_init 69 = .ok (.invokevirtual 36, 3) := by decide +kernel
theorem dX10_init_72 : decode cX10_init 72 = .ok (.return_, 1) := by decide +kernel
theorem dX11_init_0 : decode cX11_init 0 = .ok (.aload_n 0, 1) := by decide +kernel
theorem dX11_init_1 : decode cX11_init 1 = .ok (.invokespecial 1, 3) := by decide +kernel
theorem dX11_init_4 : decode cX11_init 4 = .ok (.aload_n 0, 1) := by decide +kernel
theorem dX11_init_5 : decode cX11_init 5 = .ok (.new 7, 3) := by decide +kernel
theorem dX11_init_8 : decode cX11_init 8 = .ok (.dup, 1) := by decide +kernel
theorem dX11_init_9 : decode cX11_init 9 = .ok (.invokespecial 9, 3) := by decide +kernel
theorem dX11_init_12 : decode cX11_init 12 = .ok (.putfield 10, 3) := by decide +kernel
theorem dX11_init_15 : decode cX11_init 15 = .ok (.aload_n 0, 1) := by decide +kernel
theorem dX11_init_16 : decode cX11_init 16 = .ok (.new 16, 3) := by decide +kernel
theorem dX11_init_19 : decode cX11_init 19 = .ok (.dup, 1) := by decide +kernel
theorem dX11_init_20 : decode cX11_init 20 = .ok (.invokespecial 18, 3) := by decide +kernel
theorem dX11_init_23 : decode cX11_init 23 = .ok (.putfield 19, 3) := by decide +kernel
theorem dX11_init_26 : decode cX11_init 26 = .ok (.aload_n 0, 1) := by decide +kernel
theorem dX11_init_27 : decode cX11_init 27 = .ok (.new 23, 3) := by decide +kernel
theorem dX11_init_30 : decode cX11_init 30 = .ok (.dup, 1) := by decide +kernel
theorem dX11_init_31 : decode cX11_init 31 = .ok (.invokespecial 25, 3) := by decide +kernel
theorem dX11_init_34 : decode cX11_init 34 = .ok (.putfield 26, 3) := by decide +kernel
theorem dX11_init_37 : decode cX11_init 37 = .ok (.aload_n 0, 1) := by decide +kernel
theorem dX11_init_38 : decode cX11_init 38 = .ok (.new 23, 3) := by decide +kernel
theorem dX11_init_41 : decode cX11_init 41 = .ok (.dup, 1) := by decide +kernel
theorem dX11_init_42 : decode cX11_init 42 = .ok (.invokespecial 25, 3) := by decide +kernel
theorem dX11_init_45 : decode cX11_init 45 = .ok (.putfield 30, 3) := by decide +kernel
theorem dX11_init_48 : decode cX11_init 48 = .ok (.aload_n 0, 1) := by decide +kernel
theorem dX11_init_49 : decode cX11_init 49 = .ok (.new 23, 3) := by decide +kernel
theorem dX11_init_52 : decode cX11_init 52 = .ok (.dup, 1) := by decide +kernel
theorem dX11_init_53 : decode cX11_init 53 = .ok (.invokespecial 25, 3) := by decide +kernel
theorem dX11_init_56 : decode cX11_init 56 = .ok (.putfield 33, 3) := by decide +kernel
theorem dX11_init_59 : decode cX11_init 59 = .ok (.aload_n 0, 1) := by decide +kernel
theorem dX11_init_60 : decode cX11_init 60 = .ok (.new 23, 3) := by decide +kernel
theorem dX11_init_63 : decode cX11_init 63 = .ok (.dup, 1) := by decide +kernel
theorem dX11_init_64 : decode cX11_init 64 = .ok (.invokespecial 25, 3) := by decide +kernel
theorem dX11_init_67 : decode cX11_init 67 = .ok (.putfield 36, 3) := by decide +kernel
theorem dX11_init_70 : decode cX11_init 70 = .ok (.aload_n 0, 1) := by decide +kernel
theorem dX11_init_71 : decode cX11_init 71 = .ok (.new 39, 3) := by decide +kernel
theorem dX11_init_74 : decode cX11_init 74 = .ok (.dup, 1) := by decide +kernel
theorem dX11_init_75 : decode cX11_init 75 = .ok (.invokespecial 41, 3) := by decide +kernel
theorem dX11_init_78 : decode cX11_init 78 = .ok (.putfield 42, 3) := by decide +kernel
theorem dX11_init_81 : decode cX11_init 81 = .ok (.aload_n 0, 1) := by decide +kernel
theorem dX11_init_82 : decode cX11_init 82 = .ok (.new 46, 3) := by decide +kernel
theorem dX11_init_85 : decode cX11_init 85 = .ok (.dup, 1) := by decide +kernel
theorem dX11_init_86 : decode cX11_init 86 = .ok (.aload_n 0, 1) := by decide +kernel
theorem dX11_init_87 : decode cX11_init 87 = .ok (.getfield 10, 3) := by decide +kernel
theorem dX11_init_90 : decode cX11_init 90 = .ok (.invokespecial 48, 3) := by decide +kernel
theorem dX11_init_93 : decode cX11_init 93 = .ok (.putfield 51, 3) := by decide +kernel
theorem dX11_init_96 : decode cX11_init 96 = .ok (.aload_n 0, 1) := by decide +kernel
theorem dX11_init_97 : decode cX11_init 97 = .ok (.new 55, 3) := by decide +kernel
theorem dX11_init_100 : decode cX11_init 100 = .ok (.dup, 1) := by decide +kernel
theorem dX11_init_101 : decode cX11_init 101 = .ok (.aload_n 0, 1) := by decide +kernel
theorem dX11_init_102 : decode cX11_init 102 = .ok (.getfield 10, 3) := by decide +kernel
theorem dX11_init_105 : decode cX11_init 105 = .ok (.invokespecial 57, 3) := by decide +kernel
theorem dX11_init_108 : decode cX11_init 108 = .ok (.putfield 58, 3) := by decide +kernel
theorem dX11_init_111 : decode cX11_init 111 = .ok (.aload_n 0, 1) := by decide +kernel
theorem dX11_init_112 : decode cX11_init 112 = .ok (.new 62, 3) := by decide +kernel
theorem dX11_init_115 : decode cX11_init 115 = .ok (.dup, 1) := by decide +kernel
theorem dX11_init_116 : decode cX11_init 116 = .ok (.aload_n 0, 1) := by decide +kernel
theorem dX11_init_117 : decode cX11_init 117 = .ok (.getfield 10, 3) := by decide +kernel
theorem dX11_init_120 : decode cX11_init 120 = .ok (.aload_n 0, 1) := by decide +kernel
theorem dX11_init_121 : decode cX11_init 121 = .ok (.getfield 51, 3) := by decide +kernel
theorem dX11_init_124 : decode cX11_init 124 = .ok (.invokespecial 64, 3) := by decide +kernel
theorem dX11_init_127 : decode cX11_init 127 = .ok (.putfield 67, 3) := by decide +kernel
theorem dX11_init_130 : decode cX11_init 130 = .ok (.aload_n 0, 1) := by decide +kernel
theorem dX11_init_131 : decode cX11_init 131 = .ok (.new 71, 3) := by decide +kernel
theorem dX11_init_134 : decode cX11_init 134 = .ok (.dup, 1) := by decide +kernel
theorem dX11_init_135 : decode cX11_init 135 = .ok (.aload_n 0, 1) := by decide +kernel
theorem dX11_init_136 : decode cX11_init 136 = .ok (.getfield 10, 3) := by decide +kernel
theorem dX11_init_139 : decode cX11_init 139 = .ok (.invokespecial 73, 3) := by decide +kernel
theorem dX11_init_142 : decode cX11_init 142 = .ok (.putfield 74, 3) := by decide +kernel
theorem dX11_init_145 : decode cX11_init 145 = .ok (.aload_n 0, 1) := by decide +kernel
theorem dX11_init_146 : decode cX11_init 146 = .ok (.new 78, 3) := by decide +kernel
theorem dX11_init_149 : decode cX11_init 149 = .ok (.dup, 1) := by decide +kernel
theorem dX11_init_150 : decode cX11_init 150 = .ok (.aload_n 0, 1) := by decide +kernel
theorem dX11_init_151 : decode cX11_init 151 = .ok (.getfield 10, 3) := by decide +kernel
theorem dX11_init_154 : decode cX11_init 154 = .ok (.invokespecial 80, 3) := by decide +kernel
theorem dX11_init_157 : decode cX11_init 157 = .ok (.putfield 81, 3) := by decide +kernel
theorem dX11_init_160 : decode cX11_init 160 = .ok (.aload_n 0, 1) := by decide +kernel
theorem dX11_init_161 : decode cX11_init 161 = .ok (.iconst 4, 1) := by decide +kernel
theorem dX11_init_162 : decode cX11_init 162 = .ok (.anewarray 85, 3) := by decide +kernel
theorem dX11_init_165 : decode cX11_init 165 = .ok (.putfield 87, 3) := by decide +kernel
theorem dX11_init_168 : decode cX11_init 168 = .ok (.aload_n 0, 1) := by decide +kernel
theorem dX11_init_169 : decode cX11_init 169 = .ok (.iconst 0, 1) := by decide +kernel
theorem dX11_init_170 : decode cX11_init 170 = .ok (.putfield 91, 3) := by decide +kernel
theorem dX11_init_173 : decode cX11_init 173 = .ok (.aload_n 0, 1) := by decide +kernel
theorem dX11_init_174 : decode cX11_init 174 = .ok (.iconst 0, 1) := by decide +kernel
theorem dX11_init_175 : decode cX11_init 175 = .ok (.putfield 95, 3) := by decide +kernel
theorem dX11_init_178 : decode cX11_init 178 = .ok (.iconst 0, 1) := by decide +kernel
theorem dX11_init_179 : decode cX11_init 179 = .ok (.istore_n 1, 1) := by decide +kernel
theorem dX11_init_180 : decode cX11_init 180 = .ok (.iload_n 1, 1) := by decide +kernel
theorem dX11_init_181 : decode cX11_init 181 = .ok (.aload_n 0, 1) := by decide +kernel
theorem dX11_init_182 : decode cX11_init 182 = .ok (.getfield 87, 3) := by decide +kernel
theorem dX11_init_185 : decode cX11_init 185 = .ok (.arraylength, 1) := by decide +kernel
theorem dX11_init_186 : decode cX11_init 186 = .ok (.if_icmp .ge 22, 3) := by decide +kernel
theorem dX11_init_189 : decode cX11_init 189 = .ok (.aload_n 0, 1) := by decide +kernel
theorem dX11_init_190 : decode cX11_init 190 = .ok (.getfield 87, 3) := by decide +kernel
theorem dX11_init_193 : decode cX11_init 193 = .ok (.iload_n 1, 1) := by decide +kernel
theorem dX11_init_194 : decode cX11_init 194 = .ok (.new 85, 3) := by decide +kernel
theorem dX11_init_197 : decode cX11_init 197 = .ok (.dup, 1) := by decide +kernel
theorem dX11_init_198 : decode cX11_init 198 = .ok (.invokespecial 98, 3) := by decide +kernel
theorem dX11_init_201 : decode cX11_init 201 = .ok (.aastore, 1) := by decide +kernel
theorem dX11_init_202 : decode cX11_init 202 = .ok (.iinc 1 1, 3) := by decide +kernel
theorem dX11_init_205 : decode cX11_init 205 = .ok (.goto (-25), 3) := by decide +kernel
theorem dX11_init_208 : decode cX11_init 208 = .ok (.aload_n 0, 1) := by decide +kernel
theorem dX11_init_209 : decode cX11_init 209 = .ok (.getfield 26, 3) := by decide +kernel
theorem dX11_init_212 : decode cX11_init 212 = .ok (.aload_n 0, 1) := by decide +kernel
theorem dX11_init_213 : decode cX11_init 213 = .ok (.getfield 10, 3) := by decide +kernel
theorem dX11_init_216 : decode cX11_init 216 = .ok (.invokevirtual 99, 3) := by decide +kernel
theorem dX11_init_219 : decode cX11_init 219 = .ok (.return_, 1) := by decide +kernel
theorem dX12_init_0 : decode cX12_init 0 = .ok (.aload_n 0, 1) := by decide +kernel
theorem dX12_init_1 : decode cX12_init 1 = .ok (.invokespecial 1, 3) := by decide +kernel
theorem dX12_init_4 : decode cX12_init 4 = .ok (.aload_n 0, 1) := by decide +kernel
theorem dX12_init_5 : decode cX12_init 5 = .ok (.sipush 400, 3) := by decide +kernel
theorem dX12_init_8 : decode cX12_init 8 = .ok (.newarray .int, 2) := by decide +kernel
theorem dX12_init_10 : decode cX12_init 10 = .ok (.putfield 7, 3) := by decide +kernel
theorem dX12_init_13 : decode cX12_init 13 = .ok (.aload_n 0, 1) := by decide +kernel
theorem dX12_init_14 : decode cX12_init 14 = .ok (.iconst 2, 1) := by decide +kernel
theorem dX12_init_15 : decode cX12_init 15 = .ok (.newarray .boolean, 2) := by decide +kernel
theorem dX12_init_17 : decode cX12_init 17 = .ok (.putfield 13, 3) := by decide +kernel
theorem dX12_init_20 : decode cX12_init 20 = .ok (.aload_n 0, 1) := by decide +kernel
theorem dX12_init_21 : decode cX12_init 21 = .ok (.bipush 9, 2) := by decide +kernel
theorem dX12_init_23 : decode cX12_init 23 = .ok (.newarray .int, 2) := by decide +kernel
theorem dX12_init_25 : decode cX12_init 25 = .ok (.putfield 17, 3) := by decide +kernel
theorem dX12_init_28 : decode cX12_init 28 = .ok (.aload_n 0, 1) := by decide +kernel
theorem dX12_init_29 : decode cX12_init 29 = .ok (.sipush 205, 3) := by decide +kernel
theorem dX12_init_32 : decode cX12_init 32 = .ok (.newarray .int, 2) := by decide +kernel
theorem dX12_init_34 : decode cX12_init 34 = .ok (.putfield 20, 3) := by decide +kernel
theorem dX12_init_37 : decode cX12_init 37 = .ok (.aload_n 0, 1) := by decide +kernel
theorem dX12_init_38 : decode cX12_init 38 = .ok (.bipush 9, 2) := by decide +kernel
theorem dX12_init_40 : decode cX12_init 40 = .ok (.newarray .int, 2) := by decide +kernel
theorem dX12_init_42 : decode cX12_init 42 = .ok (.putfield 23, 3) := by decide +kernel
theorem dX12_init_45 : decode cX12_init 45 = .ok (.aload_n 0, 1) := by decide +kernel
theorem dX12_init_46 : decode cX12_init 46 = .ok (.sipush 205, 3) := by decide +kernel
theorem dX12_init_49 : decode cX12_init 49 = .ok (.newarray .int, 2) := by decide +kernel
theorem dX12_init_51 : decode cX12_init 51 = .ok (.putfield 26, 3) := by decide +kernel
theorem dX12_init_54 : decode cX12_init 54 = .ok (.aload_n 0, 1) := by decide +kernel
theorem dX12_init_55 : decode cX12_init 55 = .ok (.bipush 11, 2) := by decide +kernel
theorem dX12_init_57 : decode cX12_init 57 = .ok (.newarray .int, 2) := by decide +kernel
theorem dX12_init_59 : decode cX12_init 59 = .ok (.putfield 29, 3) := by decide +kernel
theorem dX12_init_62 : decode cX12_init 62 = .ok (.aload_n 0, 1) := by decide +kernel
theorem dX12_init_63 : decode cX12_init 63 = .ok (.bipush 41, 2) := by decide +kernel
theorem dX12_init_65 : decode cX12_init 65 = .ok (.newarray .boolean, 2) := by decide +kernel
theorem dX12_init_67 : decode cX12_init 67 = .ok (.putfield 32, 3) := by decide +kernel
theorem dX12_init_70 : decode cX12_init 70 = .ok (.aload_n 0, 1) := by decide +kernel
theorem dX12_init_71 : decode cX12_init 71 = .ok (.bipush 11, 2) := by decide +kernel
theorem dX12_init_73 : decode cX12_init 73 = .ok (.newarray .boolean, 2) := by decide +kernel
theorem dX12_init_75 : decode cX12_init 75 = .ok (.putfield 35, 3) := by decide +kernel
theorem dX12_init_78 : decode cX12_init 78 = .ok (.aload_n 0, 1) := by decide +kernel
theorem dX12_init_79 : decode cX12_init 79 = .ok (.sipush 400, 3) := by decide +kernel
theorem dX12_init_82 : decode cX12_init 82 = .ok (.newarray .int, 2) := by decide +kernel
theorem dX12_init_84 : decode cX12_init 84 = .ok (.putfield 38, 3) := by decide +kernel
theorem dX12_init_87 : decode cX12_init 87 = .ok (.aload_n 0, 1) := by decide +kernel
theorem dX12_init_88 : decode cX12_init 88 = .ok (.bipush 41, 2) := by decide +kernel
theorem dX12_init_90 : decode cX12_init 90 = .ok (.newarray .int, 2) := by decide +kernel
theorem dX12_init_92 : decode cX12_init 92 = .ok (.putfield 41, 3) := by decide +kernel
theorem dX12_init_95 : decode cX12_init 95 = .ok (.aload_n 0, 1) := by decide +kernel
theorem dX12_init_96 : decode cX12_init 96 = .ok (.bipush 41, 2) := by decide +kernel
theorem dX12_init_98 : decode cX12_init 98 = .ok (.newarray .int, 2) := by decide +kernel
theorem dX12_init_100 : decode cX12_init 100 = .ok (.putfield 44, 3) := by decide +kernel
theorem dX12_init_103 : decode cX12_init 103 = .ok (.aload_n 0, 1) := by decide +kernel
theorem dX12_init_104 : decode cX12_init 104 = .ok (.bipush 41, 2) := by decide +kernel
theorem dX12_init_106 : decode cX12_init 106 = .ok (.newarray .int, 2) := by decide +kernel
theorem dX12_init_108 : decode cX12_init 108 = .ok (.putfield 47, 3) := by decide +kernel
theorem dX12_init_111 : decode cX12_init 111 = .ok (.aload_n 0, 1) := by decide +kernel
theorem dX12_init_112 : decode cX12_init 112 = .ok (.bipush 41, 2) := by decide +kernel
theorem dX12_init_114 : decode cX12_init 114 = .ok (.newarray .int, 2) := by decide +kernel
theorem dX12_init_116 : decode cX12_init 116 = .ok (.putfield 50, 3) := by decide +kernel
theorem dX12_init_119 : decode cX12_init 119 = .ok (.aload_n 0, 1) := by decide +kernel
theorem dX12_init_120 : decode cX12_init 120 = .ok (.bipush 40, 2) := by decide +kernel
theorem dX12_init_122 : decode cX12_init 122 = .ok (.newarray .int, 2) := by decide +kernel
theorem dX12_init_124 : decode cX12_init 124 = .ok (.putfield 53, 3) := by decide +kernel
theorem dX12_init_127 : decode cX12_init 127 = .ok (.aload_n 0, 1) := by decide +kernel
theorem dX12_init_128 : decode cX12_init 128 = .ok (.iconst 4, 1) := by decide +kernel
theorem dX12_init_129 : decode cX12_init 129 = .ok (.newarray .int, 2) := by decide +kernel
theorem dX12_init_131 : decode cX12_init 131 = .ok (.putfield 56, 3) := by decide +kernel
theorem dX12_init_134 : decode cX12_init 134 = .ok (.aload_n 0, 1) := by decide +kernel
theorem dX12_init_135 : decode cX12_init 135 = .ok (.iconst 4, 1) := by decide +kernel
theorem dX12_init_136 : decode cX12_init 136 = .ok (.newarray .int, 2) := by decide +kernel
theorem dX12_init_138 : decode cX12_init 138 = .ok (.putfield 59, 3) := by decide +kernel
theorem dX12_init_141 : decode cX12_init 141 = .ok (.aload_n 0, 1) := by decide +kernel
theorem dX12_init_142 : decode cX12_init 142 = .ok (.sipush 160, 3) := by decide +kernel
theorem dX12_init_145 : decode cX12_init 145 = .ok (.newarray .int, 2) := by decide +kernel
theorem dX12_init_147 : decode cX12_init 147 = .ok (.putfield 62, 3) := by decide +kernel
theorem dX12_init_150 : decode cX12_init 150 = .ok (.iconst 0, 1) := by decide +kernel
theorem dX12_init_151 : decode cX12_init 151 = .ok (.istore_n 1, 1) := by decide +kernel
theorem dX12_init_152 : decode cX12_init 152 = .ok (.iload_n 1, 1) := by decide +kernel
theorem dX12_init_153 : decode cX12_init 153 = .ok (.iconst 4, 1) := by decide +kernel
theorem dX12_init_154 : decode cX12_init 154 = .ok (.if_icmp .ge 17, 3) := by decide +kernel
theorem dX12_init_157 : decode cX12_init 157 = .ok (.aload_n 0, 1) := by decide +kernel
theorem dX12_init_158 : decode cX12_init 158 = .ok (.getfield 56, 3) := by decide +kernel
theorem dX12_init_161 : decode cX12_init 161 = .ok (.iload_n 1, 1) := by decide +kernel
theorem dX12_init_162 : decode cX12_init 162 = .ok (.bipush (-4), 2) := by decide +kernel
theorem dX12_init_164 : decode cX12_init 164 = .ok (.iastore, 1) := by decide +kernel
theorem dX12_init_165 : decode cX12_init 165 = .ok (.iinc 1 1, 3) := by decide +kernel
theorem dX12_init_168 : decode cX12_init 168 = .ok (.goto (-16), 3) := by decide +kernel
theorem dX12_init_171 : decode cX12_init 171 = .ok (.aload_n 0, 1) := by decide +kernel
theorem dX12_init_172 : decode cX12_init 172 = .ok (.invokevirtual 65, 3) := by decide +kernel
theorem dX12_init_175 : decode cX12_init 175 = .ok (.aload_n 0, 1) := by decide +kernel
theorem dX12_init_176 : decode cX12_init 176 = .ok (.invokevirtual 68, 3) := by decide +kernel
theorem dX12_init_179 : decode cX12_init 179 = .ok (.return_, 1) := by decide +kernel
theorem wallOf1 {G : tw_G} (hgt : tw_gt G) : IsWall (tw_sub G (List.range' 1 9)) 1 := ⟨⟨⟨show 1 ∈ List.range' 1 9 from by decide, rfl⟩, ⟨show 1 + 1 ∈ List.range' 1 9 from by decide, rfl, hgt.1⟩, ⟨show 1 + 2 ∈ List.range' 1 9 from by decide, rfl, hgt.1⟩, ⟨show 1 + 3 ∈ List.range' 1 9 from by decide, rfl, hgt.1⟩, ⟨show 1 + 4 ∈ List.range' 1 9 from by decide, rfl, hgt.1⟩, ⟨show 1 + 5 ∈ List.range' 1 9 from by decide, rfl, hgt.1⟩, ⟨show 1 + 6 ∈ List.range' 1 9 from by decide, rfl, hgt.1⟩, ⟨show 1 + 7 ∈ List.range' 1 9 from by decide, rfl, hgt.1⟩, ⟨show 1 + 8 ∈ List.range' 1 9 from by decide, rfl, hgt.1⟩⟩, ⟨rfl, rfl, rfl, rfl, rfl, rfl, rfl, rfl, rfl⟩⟩
theorem wallOf14 {G : tw_G} (hgt : tw_gt G) : IsWall (tw_sub G (List.range' 14 9)) 14 := ⟨⟨⟨show 14 ∈ List.range' 14 9 from by decide, rfl⟩, ⟨show 14 + 1 ∈ List.range' 14 9 from by decide, rfl, hgt.1⟩, ⟨show 14 + 2 ∈ List.range' 14 9 from by decide, rfl, hgt.1⟩, ⟨show 14 + 3 ∈ List.range' 14 9 from by decide, rfl, hgt.1⟩, ⟨show 14 + 4 ∈ List.range' 14 9 from by decide, rfl, hgt.1⟩, ⟨show 14 + 5 ∈ List.range' 14 9 from by decide, rfl, hgt.1⟩, ⟨show 14 + 6 ∈ List.range' 14 9 from by decide, rfl, hgt.1⟩, ⟨show 14 + 7 ∈ List.range' 14 9 from by decide, rfl, hgt.1⟩, ⟨show 14 + 8 ∈ List.range' 14 9 from by decide, rfl, hgt.1⟩⟩, ⟨rfl, rfl, rfl, rfl, rfl, rfl, rfl, rfl, rfl⟩⟩
theorem oi_X11_1 : Cond.methodLink RX11 1 Lib.objectInit ∈ tw_ws ∧ Cond.instanceMethod Lib.objectInit ∈ tw_ws ∧ Cond.code Lib.objectInit ⟨#[0xb1]⟩ 1 none ∈ tw_ws := ⟨(tw_inc tm_1 (i := 24) rfl rfl), (tw_inc tm_1 (i := 25) rfl rfl), (tw_inc tm_1 (i := 26) rfl rfl)⟩
theorem cn_X11_7 : tw_cn RX11 7 10 8 dfX10 := ⟨_, _, tyX10, rfl, in_X10, tyX10_ok, (tw_inc tm_1 (i := 27) rfl rfl), (tw_inc tm_1 (i := 28) rfl rfl), (tw_inc tm_1 (i := 2) rfl rfl), fun G j hj => match j, hj with | 0, _ => rfl | 1, _ => rfl | 2, _ => rfl | 3, _ => rfl | 4, _ => rfl | 5, _ => rfl | 6, _ => rfl | 7, _ => rfl | j + 8, h => absurd h (by omega)⟩
theorem oi_X10_3 : Cond.methodLink RX10 3 Lib.objectInit ∈ tw_ws ∧ Cond.instanceMethod Lib.objectInit ∈ tw_ws ∧ Cond.code Lib.objectInit ⟨#[0xb1]⟩ 1 none ∈ tw_ws := ⟨(tw_inc tm_1 (i := 32) rfl rfl), (tw_inc tm_1 (i := 25) rfl rfl), (tw_inc tm_1 (i := 26) rfl rfl)⟩
theorem ac_I : Cond.arrayClass .int ∈ tw_ws := (tw_inc tm_1 (i := 90) rfl rfl)
theorem ff_X10_0 : tw_ff RX10 10 0 (tyX10 0) := ⟨_, _, _, tyX10, rfl, tyX10_ok, nmX10, rfl, Or.inr ⟨rfl, rfl⟩⟩
theorem ff_X10_1 : tw_ff RX10 10 1 (tyX10 1) := ⟨_, _, _, tyX10, rfl, tyX10_ok, nmX10, rfl, Or.inr ⟨rfl, rfl⟩⟩
theorem ff_X10_2 : tw_ff RX10 10 2 (tyX10 2) := ⟨_, _, _, tyX10, rfl, tyX10_ok, nmX10, rfl, Or.inr ⟨rfl, rfl⟩⟩
theorem ff_X10_3 : tw_ff RX10 10 3 (tyX10 3) := ⟨_, _, _, tyX10, rfl, tyX10_ok, nmX10, rfl, Or.inr ⟨rfl, rfl⟩⟩
theorem ff_X10_4 : tw_ff RX10 10 4 (tyX10 4) := ⟨_, _, _, tyX10, rfl, tyX10_ok, nmX10, rfl, Or.inr ⟨rfl, rfl⟩⟩
theorem ff_X10_5 : tw_ff RX10 10 5 (tyX10 5) := ⟨_, _, _, tyX10, rfl, tyX10_ok, nmX10, rfl, Or.inr ⟨rfl, rfl⟩⟩
theorem ff_X10_6 : tw_ff RX10 10 6 (tyX10 6) := ⟨_, _, _, tyX10, rfl, tyX10_ok, nmX10, rfl, Or.inr ⟨rfl, rfl⟩⟩
theorem ff_X10_7 : tw_ff RX10 10 7 (tyX10 7) := ⟨_, _, _, tyX10, rfl, tyX10_ok, nmX10, rfl, Or.inr ⟨rfl, rfl⟩⟩
theorem ci_X11_9 : tw_cI RX11 9 yX10_init cX10_init 1 0 := ⟨List.forall_mem_cons.mpr ⟨(tw_inc tm_1 (i := 29) rfl rfl), List.forall_mem_cons.mpr ⟨(tw_inc tm_1 (i := 30) rfl rfl), List.forall_mem_cons.mpr ⟨(tw_inc tm_1 (i := 2) rfl rfl), List.forall_mem_cons.mpr ⟨(tw_inc tm_1 (i := 31) rfl rfl), fun _ h => absurd h List.not_mem_nil⟩⟩⟩⟩, rfl, by decide +kernel, by decide +kernel, by decide +kernel⟩
theorem ff_X11_0 : tw_ff RX11 11 0 (tyX11 0) := ⟨_, _, _, tyX11, rfl, tyX11_ok, nmX11, rfl, Or.inr ⟨rfl, rfl⟩⟩
theorem cn_X11_16 : tw_cn RX11 16 9 14 dfX9 := ⟨_, _, tyX9, rfl, in_X9, tyX9_ok, (tw_inc tm_1 (i := 91) rfl rfl), (tw_inc tm_1 (i := 92) rfl rfl), (tw_inc tm_1 (i := 3) rfl rfl), fun G j hj => match j, hj with | 0, _ => rfl | 1, _ => rfl | 2, _ => rfl | 3, _ => rfl | 4, _ => rfl | 5, _ => rfl | 6, _ => rfl | 7, _ => rfl | 8, _ => rfl | 9, _ => rfl | 10, _ => rfl | 11, _ => rfl | 12, _ => rfl | 13, _ => rfl | j + 14, h => absurd h (by omega)⟩
theorem oi_X9_3 : Cond.methodLink RX9 3 Lib.objectInit ∈ tw_ws ∧ Cond.instanceMethod Lib.objectInit ∈ tw_ws ∧ Cond.code Lib.objectInit ⟨#[0xb1]⟩ 1 none ∈ tw_ws := ⟨(tw_inc tm_1 (i := 96) rfl rfl), (tw_inc tm_1 (i := 25) rfl rfl), (tw_inc tm_1 (i := 26) rfl rfl)⟩
theorem ac_B : Cond.arrayClass .byte ∈ tw_ws := (tw_inc tm_1 (i := 147) rfl rfl)
theorem ff_X9_0 : tw_ff RX9 9 0 (tyX9 0) := ⟨_, _, _, tyX9, rfl, tyX9_ok, nmX9, rfl, Or.inr ⟨rfl, rfl⟩⟩
theorem ac_Z : Cond.arrayClass .boolean ∈ tw_ws := (tw_inc tm_1 (i := 148) rfl rfl)
theorem ff_X9_1 : tw_ff RX9 9 1 (tyX9 1) := ⟨_, _, _, tyX9, rfl, tyX9_ok, nmX9, rfl, Or.inr ⟨rfl, rfl⟩⟩
theorem ff_X9_2 : tw_ff RX9 9 2 (tyX9 2) := ⟨_, _, _, tyX9, rfl, tyX9_ok, nmX9, rfl, Or.inr ⟨rfl, rfl⟩⟩
theorem cn_X9_22 : tw_cn RX9 22 10 8 dfX10 := ⟨_, _, tyX10, rfl, in_X10, tyX10_ok, (tw_inc tm_1 (i := 97) rfl rfl), (tw_inc tm_1 (i := 28) rfl rfl), (tw_inc tm_1 (i := 2) rfl rfl), fun G j hj => match j, hj with | 0, _ => rfl | 1, _ => rfl | 2, _ => rfl | 3, _ => rfl | 4, _ => rfl | 5, _ => rfl | 6, _ => rfl | 7, _ => rfl | j + 8, h => absurd h (by omega)⟩
theorem ci_X9_24 : tw_cI RX9 24 yX10_init cX10_init 1 0 := ⟨List.forall_mem_cons.mpr ⟨(tw_inc tm_1 (i := 98) rfl rfl), List.forall_mem_cons.mpr ⟨(tw_inc tm_1 (i := 30) rfl rfl), List.forall_mem_cons.mpr ⟨(tw_inc tm_1 (i := 2) rfl rfl), List.forall_mem_cons.mpr ⟨(tw_inc tm_1 (i := 31) rfl rfl), fun _ h => absurd h List.not_mem_nil⟩⟩⟩⟩, rfl, by decide +kernel, by decide +kernel, by decide +kernel⟩
theorem ff_X9_9 : tw_ff RX9 9 9 (tyX9 9) := ⟨_, _, _, tyX9, rfl, tyX9_ok, nmX9, rfl, Or.inr ⟨rfl, rfl⟩⟩
theorem ff_X9_10 : tw_ff RX9 9 10 (tyX9 10) := ⟨_, _, _, tyX9, rfl, tyX9_ok, nmX9, rfl, Or.inl rfl⟩
theorem ff_X9_11 : tw_ff RX9 9 11 (tyX9 11) := ⟨_, _, _, tyX9, rfl, tyX9_ok, nmX9, rfl, Or.inl rfl⟩
theorem ff_X9_12 : tw_ff RX9 9 12 (tyX9 12) := ⟨_, _, _, tyX9, rfl, tyX9_ok, nmX9, rfl, Or.inl rfl⟩
theorem ff_X9_13 : tw_ff RX9 9 13 (tyX9 13) := ⟨_, _, _, tyX9, rfl, tyX9_ok, nmX9, rfl, Or.inl rfl⟩
theorem ci_X11_18 : tw_cI RX11 18 yX9_init cX9_init 1 0 := ⟨List.forall_mem_cons.mpr ⟨(tw_inc tm_1 (i := 93) rfl rfl), List.forall_mem_cons.mpr ⟨(tw_inc tm_1 (i := 94) rfl rfl), List.forall_mem_cons.mpr ⟨(tw_inc tm_1 (i := 3) rfl rfl), List.forall_mem_cons.mpr ⟨(tw_inc tm_1 (i := 95) rfl rfl), fun _ h => absurd h List.not_mem_nil⟩⟩⟩⟩, rfl, by decide +kernel, by decide +kernel, by decide +kernel⟩
theorem ff_X11_1 : tw_ff RX11 11 1 (tyX11 1) := ⟨_, _, _, tyX11, rfl, tyX11_ok, nmX11, rfl, Or.inr ⟨rfl, rfl⟩⟩
theorem cn_X11_23 : tw_cn RX11 23 3 7 dfX3 := ⟨_, _, tyX3, rfl, in_X3, tyX3_ok, (tw_inc tm_1 (i := 149) rfl rfl), (tw_inc tm_1 (i := 150) rfl rfl), (tw_inc tm_1 (i := 4) rfl rfl), fun G j hj => match j, hj with | 0, _ => rfl | 1, _ => rfl | 2, _ => rfl | 3, _ => rfl | 4, _ => rfl | 5, _ => rfl | 6, _ => rfl | j + 7, h => absurd h (by omega)⟩
theorem oi_X3_3 : Cond.methodLink RX3 3 Lib.objectInit ∈ tw_ws ∧ Cond.instanceMethod Lib.objectInit ∈ tw_ws ∧ Cond.code Lib.objectInit ⟨#[0xb1]⟩ 1 none ∈ tw_ws := ⟨(tw_inc tm_1 (i := 154) rfl rfl), (tw_inc tm_1 (i := 25) rfl rfl), (tw_inc tm_1 (i := 26) rfl rfl)⟩
theorem cn_X3_9 : tw_cn RX3 9 7 4 dfX7 := ⟨_, _, tyX7, rfl, in_X7, tyX7_ok, (tw_inc tm_1 (i := 155) rfl rfl), (tw_inc tm_1 (i := 156) rfl rfl), (tw_inc tm_1 (i := 5) rfl rfl), fun G j hj => match j, hj with | 0, _ => rfl | 1, _ => rfl | 2, _ => rfl | 3, _ => rfl | j + 4, h => absurd h (by omega)⟩
theorem oi_X7_3 : Cond.methodLink RX7 3 Lib.objectInit ∈ tw_ws ∧ Cond.instanceMethod Lib.objectInit ∈ tw_ws ∧ Cond.code Lib.objectInit ⟨#[0xb1]⟩ 1 none ∈ tw_ws := ⟨(tw_inc tm_1 (i := 160) rfl rfl), (tw_inc tm_1 (i := 25) rfl rfl), (tw_inc tm_1 (i := 26) rfl rfl)⟩
theorem ff_X7_0 : tw_ff RX7 7 0 (tyX7 0) := ⟨_, _, _, tyX7, rfl, tyX7_ok, nmX7, rfl, Or.inl rfl⟩
theorem ff_X7_1 : tw_ff RX7 7 1 (tyX7 1) := ⟨_, _, _, tyX7, rfl, tyX7_ok, nmX7, rfl, Or.inr ⟨rfl, rfl⟩⟩
theorem ff_X7_2 : tw_ff RX7 7 2 (tyX7 2) := ⟨_, _, _, tyX7, rfl, tyX7_ok, nmX7, rfl, Or.inr ⟨rfl, rfl⟩⟩
theorem ff_X7_3 : tw_ff RX7 7 3 (tyX7 3) := ⟨_, _, _, tyX7, rfl, tyX7_ok, nmX7, rfl, Or.inr ⟨rfl, rfl⟩⟩
theorem ci_X3_11 : tw_cI RX3 11 yX7_init cX7_init 1 0 := ⟨List.forall_mem_cons.mpr ⟨(tw_inc tm_1 (i := 157) rfl rfl), List.forall_mem_cons.mpr ⟨(tw_inc tm_1 (i := 158) rfl rfl), List.forall_mem_cons.mpr ⟨(tw_inc tm_1 (i := 5) rfl rfl), List.forall_mem_cons.mpr ⟨(tw_inc tm_1 (i := 159) rfl rfl), fun _ h => absurd h List.not_mem_nil⟩⟩⟩⟩, rfl, by decide +kernel, by decide +kernel, by decide +kernel⟩
theorem ff_X3_0 : tw_ff RX3 3 0 (tyX3 0) := ⟨_, _, _, tyX3, rfl, tyX3_ok, nmX3, rfl, Or.inr ⟨rfl, rfl⟩⟩
theorem ff_X3_1 : tw_ff RX3 3 1 (tyX3 1) := ⟨_, _, _, tyX3, rfl, tyX3_ok, nmX3, rfl, Or.inr ⟨rfl, rfl⟩⟩
theorem ff_X3_2 : tw_ff RX3 3 2 (tyX3 2) := ⟨_, _, _, tyX3, rfl, tyX3_ok, nmX3, rfl, Or.inr ⟨rfl, rfl⟩⟩
theorem ff_X3_3 : tw_ff RX3 3 3 (tyX3 3) := ⟨_, _, _, tyX3, rfl, tyX3_ok, nmX3, rfl, Or.inr ⟨rfl, rfl⟩⟩
theorem ff_X3_4 : tw_ff RX3 3 4 (tyX3 4) := ⟨_, _, _, tyX3, rfl, tyX3_ok, nmX3, rfl, Or.inl rfl⟩
theorem ff_X3_5 : tw_ff RX3 3 5 (tyX3 5) := ⟨_, _, _, tyX3, rfl, tyX3_ok, nmX3, rfl, Or.inl rfl⟩
theorem ff_X3_6 : tw_ff RX3 3 6 (tyX3 6) := ⟨_, _, _, tyX3, rfl, tyX3_ok, nmX3, rfl, Or.inl rfl⟩
theorem ci_X11_25 : tw_cI RX11 25 yX3_init cX3_init 1 0 := ⟨List.forall_mem_cons.mpr ⟨(tw_inc tm_1 (i := 151) rfl rfl), List.forall_mem_cons.mpr ⟨(tw_inc tm_1 (i := 152) rfl rfl), List.forall_mem_cons.mpr ⟨(tw_inc tm_1 (i := 4) rfl rfl), List.forall_mem_cons.mpr ⟨(tw_inc tm_1 (i := 153) rfl rfl), fun _ h => absurd h List.not_mem_nil⟩⟩⟩⟩, rfl, by decide +kernel, by decide +kernel, by decide +kernel⟩
theorem ff_X11_2 : tw_ff RX11 11 2 (tyX11 2) := ⟨_, _, _, tyX11, rfl, tyX11_ok, nmX11, rfl, Or.inr ⟨rfl, rfl⟩⟩
theorem ff_X11_3 : tw_ff RX11 11 3 (tyX11 3) := ⟨_, _, _, tyX11, rfl, tyX11_ok, nmX11, rfl, Or.inr ⟨rfl, rfl⟩⟩
theorem ff_X11_4 : tw_ff RX11 11 4 (tyX11 4) := ⟨_, _, _, tyX11, rfl, tyX11_ok, nmX11, rfl, Or.inr ⟨rfl, rfl⟩⟩
theorem ff_X11_5 : tw_ff RX11 11 5 (tyX11 5) := ⟨_, _, _, tyX11, rfl, tyX11_ok, nmX11, rfl, Or.inr ⟨rfl, rfl⟩⟩
theorem cn_X11_39 : tw_cn RX11 39 2 6 dfX2 := ⟨_, _, tyX2, rfl, in_X2, tyX2_ok, (tw_inc tm_1 (i := 220) rfl rfl), (tw_inc tm_1 (i := 221) rfl rfl), (tw_inc tm_1 (i := 6) rfl rfl), fun G j hj => match j, hj with | 0, _ => rfl | 1, _ => rfl | 2, _ => rfl | 3, _ => rfl | 4, _ => rfl | 5, _ => rfl | j + 6, h => absurd h (by omega)⟩
theorem oi_X2_3 : Cond.methodLink RX2 3 Lib.objectInit ∈ tw_ws ∧ Cond.instanceMethod Lib.objectInit ∈ tw_ws ∧ Cond.code Lib.objectInit ⟨#[0xb1]⟩ 1 none ∈ tw_ws := ⟨(tw_inc tm_1 (i := 225) rfl rfl), (tw_inc tm_1 (i := 25) rfl rfl), (tw_inc tm_1 (i := 26) rfl rfl)⟩
theorem ff_X2_0 : tw_ff RX2 2 0 (tyX2 0) := ⟨_, _, _, tyX2, rfl, tyX2_ok, nmX2, rfl, Or.inl rfl⟩
theorem ff_X2_1 : tw_ff RX2 2 1 (tyX2 1) := ⟨_, _, _, tyX2, rfl, tyX2_ok, nmX2, rfl, Or.inl rfl⟩
theorem ff_X2_2 : tw_ff RX2 2 2 (tyX2 2) := ⟨_, _, _, tyX2, rfl, tyX2_ok, nmX2, rfl, Or.inl rfl⟩
theorem ff_X2_3 : tw_ff RX2 2 3 (tyX2 3) := ⟨_, _, _, tyX2, rfl, tyX2_ok, nmX2, rfl, Or.inl rfl⟩
theorem ff_X2_4 : tw_ff RX2 2 4 (tyX2 4) := ⟨_, _, _, tyX2, rfl, tyX2_ok, nmX2, rfl, Or.inl rfl⟩
theorem ff_X2_5 : tw_ff RX2 2 5 (tyX2 5) := ⟨_, _, _, tyX2, rfl, tyX2_ok, nmX2, rfl, Or.inl rfl⟩
theorem ci_X11_41 : tw_cI RX11 41 yX2_init cX2_init 1 0 := ⟨List.forall_mem_cons.mpr ⟨(tw_inc tm_1 (i := 222) rfl rfl), List.forall_mem_cons.mpr ⟨(tw_inc tm_1 (i := 223) rfl rfl), List.forall_mem_cons.mpr ⟨(tw_inc tm_1 (i := 6) rfl rfl), List.forall_mem_cons.mpr ⟨(tw_inc tm_1 (i := 224) rfl rfl), fun _ h => absurd h List.not_mem_nil⟩⟩⟩⟩, rfl, by decide +kernel, by decide +kernel, by decide +kernel⟩
theorem ff_X11_6 : tw_ff RX11 11 6 (tyX11 6) := ⟨_, _, _, tyX11, rfl, tyX11_ok, nmX11, rfl, Or.inr ⟨rfl, rfl⟩⟩
theorem cn_X11_46 : tw_cn RX11 46 4 6 dfX4 := ⟨_, _, tyX4, rfl, in_X4, tyX4_ok, (tw_inc tm_2 (i := 13) rfl rfl), (tw_inc tm_2 (i := 14) rfl rfl), (tw_inc tm_1 (i := 7) rfl rfl), fun G j hj => match j, hj with | 0, _ => rfl | 1, _ => rfl | 2, _ => rfl | 3, _ => rfl | 4, _ => rfl | 5, _ => rfl | j + 6, h => absurd h (by omega)⟩
theorem oi_X4_1 : Cond.methodLink RX4 1 Lib.objectInit ∈ tw_ws ∧ Cond.instanceMethod Lib.objectInit ∈ tw_ws ∧ Cond.code Lib.objectInit ⟨#[0xb1]⟩ 1 none ∈ tw_ws := ⟨(tw_inc tm_2 (i := 18) rfl rfl), (tw_inc tm_1 (i := 25) rfl rfl), (tw_inc tm_1 (i := 26) rfl rfl)⟩
theorem cn_X4_7 : tw_cn RX4 7 2 6 dfX2 := ⟨_, _, tyX2, rfl, in_X2, tyX2_ok, (tw_inc tm_2 (i := 19) rfl rfl), (tw_inc tm_1 (i := 221) rfl rfl), (tw_inc tm_1 (i := 6) rfl rfl), fun G j hj => match j, hj with | 0, _ => rfl | 1, _ => rfl | 2, _ => rfl | 3, _ => rfl | 4, _ => rfl | 5, _ => rfl | j + 6, h => absurd h (by omega)⟩
theorem ci_X4_9 : tw_cI RX4 9 yX2_init cX2_init 1 0 := ⟨List.forall_mem_cons.mpr ⟨(tw_inc tm_2 (i := 20) rfl rfl), List.forall_mem_cons.mpr ⟨(tw_inc tm_1 (i := 223) rfl rfl), List.forall_mem_cons.mpr ⟨(tw_inc tm_1 (i := 6) rfl rfl), List.forall_mem_cons.mpr ⟨(tw_inc tm_1 (i := 224) rfl rfl), fun _ h => absurd h List.not_mem_nil⟩⟩⟩⟩, rfl, by decide +kernel, by decide +kernel, by decide +kernel⟩
theorem ff_X4_1 : tw_ff RX4 4 1 (tyX4 1) := ⟨_, _, _, tyX4, rfl, tyX4_ok, nmX4, rfl, Or.inr ⟨rfl, rfl⟩⟩
theorem ff_X4_2 : tw_ff RX4 4 2 (tyX4 2) := ⟨_, _, _, tyX4, rfl, tyX4_ok, nmX4, rfl, Or.inl rfl⟩
theorem ff_X4_3 : tw_ff RX4 4 3 (tyX4 3) := ⟨_, _, _, tyX4, rfl, tyX4_ok, nmX4, rfl, Or.inl rfl⟩
theorem ff_X4_4 : tw_ff RX4 4 4 (tyX4 4) := ⟨_, _, _, tyX4, rfl, tyX4_ok, nmX4, rfl, Or.inl rfl⟩
theorem ff_X4_5 : tw_ff RX4 4 5 (tyX4 5) := ⟨_, _, _, tyX4, rfl, tyX4_ok, nmX4, rfl, Or.inl rfl⟩
theorem ff_X4_0 : tw_ff RX4 4 0 (tyX4 0) := ⟨_, _, _, tyX4, rfl, tyX4_ok, nmX4, rfl, Or.inr ⟨rfl, rfl⟩⟩
theorem ci_X11_48 : tw_cI RX11 48 yX4_init cX4_init 2 1 := ⟨List.forall_mem_cons.mpr ⟨(tw_inc tm_2 (i := 15) rfl rfl), List.forall_mem_cons.mpr ⟨(tw_inc tm_2 (i := 16) rfl rfl), List.forall_mem_cons.mpr ⟨(tw_inc tm_1 (i := 7) rfl rfl), List.forall_mem_cons.mpr ⟨(tw_inc tm_2 (i := 17) rfl rfl), fun _ h => absurd h List.not_mem_nil⟩⟩⟩⟩, rfl, by decide +kernel, by decide +kernel, by decide +kernel⟩
theorem ff_X11_7 : tw_ff RX11 11 7 (tyX11 7) := ⟨_, _, _, tyX11, rfl, tyX11_ok, nmX11, rfl, Or.inr ⟨rfl, rfl⟩⟩
theorem cn_X11_55 : tw_cn RX11 55 1 4 dfX1 := ⟨_, _, tyX1, rfl, in_X1, tyX1_ok, (tw_inc tm_2 (i := 46) rfl rfl), (tw_inc tm_2 (i := 47) rfl rfl), (tw_inc tm_1 (i := 8) rfl rfl), fun G j hj => match j, hj with | 0, _ => rfl | 1, _ => rfl | 2, _ => rfl | 3, _ => rfl | j + 4, h => absurd h (by omega)⟩
theorem oi_X1_3 : Cond.methodLink RX1 3 Lib.objectInit ∈ tw_ws ∧ Cond.instanceMethod Lib.objectInit ∈ tw_ws ∧ Cond.code Lib.objectInit ⟨#[0xb1]⟩ 1 none ∈ tw_ws := ⟨(tw_inc tm_2 (i := 51) rfl rfl), (tw_inc tm_1 (i := 25) rfl rfl), (tw_inc tm_1 (i := 26) rfl rfl)⟩
theorem cn_X1_9 : tw_cn RX1 9 2 6 dfX2 := ⟨_, _, tyX2, rfl, in_X2, tyX2_ok, (tw_inc tm_2 (i := 52) rfl rfl), (tw_inc tm_1 (i := 221) rfl rfl), (tw_inc tm_1 (i := 6) rfl rfl), fun G j hj => match j, hj with | 0, _ => rfl | 1, _ => rfl | 2, _ => rfl | 3, _ => rfl | 4, _ => rfl | 5, _ => rfl | j + 6, h => absurd h (by omega)⟩
theorem ci_X1_11 : tw_cI RX1 11 yX2_init cX2_init 1 0 := ⟨List.forall_mem_cons.mpr ⟨(tw_inc tm_2 (i := 53) rfl rfl), List.forall_mem_cons.mpr ⟨(tw_inc tm_1 (i := 223) rfl rfl), List.forall_mem_cons.mpr ⟨(tw_inc tm_1 (i := 6) rfl rfl), List.forall_mem_cons.mpr ⟨(tw_inc tm_1 (i := 224) rfl rfl), fun _ h => absurd h List.not_mem_nil⟩⟩⟩⟩, rfl, by decide +kernel, by decide +kernel, by decide +kernel⟩
theorem ff_X1_1 : tw_ff RX1 1 1 (tyX1 1) := ⟨_, _, _, tyX1, rfl, tyX1_ok, nmX1, rfl, Or.inr ⟨rfl, rfl⟩⟩
theorem ff_X1_2 : tw_ff RX1 1 2 (tyX1 2) := ⟨_, _, _, tyX1, rfl, tyX1_ok, nmX1, rfl, Or.inl rfl⟩
theorem ff_X1_3 : tw_ff RX1 1 3 (tyX1 3) := ⟨_, _, _, tyX1, rfl, tyX1_ok, nmX1, rfl, Or.inl rfl⟩
theorem ff_X1_0 : tw_ff RX1 1 0 (tyX1 0) := ⟨_, _, _, tyX1, rfl, tyX1_ok, nmX1, rfl, Or.inr ⟨rfl, rfl⟩⟩
theorem ci_X11_57 : tw_cI RX11 57 yX1_init cX1_init 2 1 := ⟨List.forall_mem_cons.mpr ⟨(tw_inc tm_2 (i := 48) rfl rfl), List.forall_mem_cons.mpr ⟨(tw_inc tm_2 (i := 49) rfl rfl), List.forall_mem_cons.mpr ⟨(tw_inc tm_1 (i := 8) rfl rfl), List.forall_mem_cons.mpr ⟨(tw_inc tm_2 (i := 50) rfl rfl), fun _ h => absurd h List.not_mem_nil⟩⟩⟩⟩, rfl, by decide +kernel, by decide +kernel, by decide +kernel⟩
theorem ff_X11_8 : tw_ff RX11 11 8 (tyX11 8) := ⟨_, _, _, tyX11, rfl, tyX11_ok, nmX11, rfl, Or.inr ⟨rfl, rfl⟩⟩
theorem cn_X11_62 : tw_cn RX11 62 5 14 dfX5 := ⟨_, _, tyX5, rfl, in_X5, tyX5_ok, (tw_inc tm_2 (i := 67) rfl rfl), (tw_inc tm_2 (i := 68) rfl rfl), (tw_inc tm_1 (i := 9) rfl rfl), fun G j hj => match j, hj with | 0, _ => rfl | 1, _ => rfl | 2, _ => rfl | 3, _ => rfl | 4, _ => rfl | 5, _ => rfl | 6, _ => rfl | 7, _ => rfl | 8, _ => rfl | 9, _ => rfl | 10, _ => rfl | 11, _ => rfl | 12, _ => rfl | 13, _ => rfl | j + 14, h => absurd h (by omega)⟩
theorem oi_X5_3 : Cond.methodLink RX5 3 Lib.objectInit ∈ tw_ws ∧ Cond.instanceMethod Lib.objectInit ∈ tw_ws ∧ Cond.code Lib.objectInit ⟨#[0xb1]⟩ 1 none ∈ tw_ws := ⟨(tw_inc tm_2 (i := 72) rfl rfl), (tw_inc tm_1 (i := 25) rfl rfl), (tw_inc tm_1 (i := 26) rfl rfl)⟩
theorem cn_X5_9 : tw_cn RX5 9 7 4 dfX7 := ⟨_, _, tyX7, rfl, in_X7, tyX7_ok, (tw_inc tm_2 (i := 73) rfl rfl), (tw_inc tm_1 (i := 156) rfl rfl), (tw_inc tm_1 (i := 5) rfl rfl), fun G j hj => match j, hj with | 0, _ => rfl | 1, _ => rfl | 2, _ => rfl | 3, _ => rfl | j + 4, h => absurd h (by omega)⟩
theorem ci_X5_11 : tw_cI RX5 11 yX7_init cX7_init 1 0 := ⟨List.forall_mem_cons.mpr ⟨(tw_inc tm_2 (i := 74) rfl rfl), List.forall_mem_cons.mpr ⟨(tw_inc tm_1 (i := 158) rfl rfl), List.forall_mem_cons.mpr ⟨(tw_inc tm_1 (i := 5) rfl rfl), List.forall_mem_cons.mpr ⟨(tw_inc tm_1 (i := 159) rfl rfl), fun _ h => absurd h List.not_mem_nil⟩⟩⟩⟩, rfl, by decide +kernel, by decide +kernel, by decide +kernel⟩
theorem ff_X5_2 : tw_ff RX5 5 2 (tyX5 2) := ⟨_, _, _, tyX5, rfl, tyX5_ok, nmX5, rfl, Or.inr ⟨rfl, rfl⟩⟩
theorem ff_X5_3 : tw_ff RX5 5 3 (tyX5 3) := ⟨_, _, _, tyX5, rfl, tyX5_ok, nmX5, rfl, Or.inr ⟨rfl, rfl⟩⟩
theorem ff_X5_4 : tw_ff RX5 5 4 (tyX5 4) := ⟨_, _, _, tyX5, rfl, tyX5_ok, nmX5, rfl, Or.inr ⟨rfl, rfl⟩⟩
theorem ff_X5_5 : tw_ff RX5 5 5 (tyX5 5) := ⟨_, _, _, tyX5, rfl, tyX5_ok, nmX5, rfl, Or.inl rfl⟩
theorem ff_X5_6 : tw_ff RX5 5 6 (tyX5 6) := ⟨_, _, _, tyX5, rfl, tyX5_ok, nmX5, rfl, Or.inl rfl⟩
theorem ff_X5_7 : tw_ff RX5 5 7 (tyX5 7) := ⟨_, _, _, tyX5, rfl, tyX5_ok, nmX5, rfl, Or.inl rfl⟩
theorem ff_X5_8 : tw_ff RX5 5 8 (tyX5 8) := ⟨_, _, _, tyX5, rfl, tyX5_ok, nmX5, rfl, Or.inl rfl⟩
theorem ff_X5_9 : tw_ff RX5 5 9 (tyX5 9) := ⟨_, _, _, tyX5, rfl, tyX5_ok, nmX5, rfl, Or.inr ⟨rfl, rfl⟩⟩
theorem ff_X5_10 : tw_ff RX5 5 10 (tyX5 10) := ⟨_, _, _, tyX5, rfl, tyX5_ok, nmX5, rfl, Or.inl rfl⟩
theorem ff_X5_11 : tw_ff RX5 5 11 (tyX5 11) := ⟨_, _, _, tyX5, rfl, tyX5_ok, nmX5, rfl, Or.inl rfl⟩
theorem ff_X5_12 : tw_ff RX5 5 12 (tyX5 12) := ⟨_, _, _, tyX5, rfl, tyX5_ok, nmX5, rfl, Or.inl rfl⟩
theorem ff_X5_13 : tw_ff RX5 5 13 (tyX5 13) := ⟨_, _, _, tyX5, rfl, tyX5_ok, nmX5, rfl, Or.inl rfl⟩
theorem ff_X5_0 : tw_ff RX5 5 0 (tyX5 0) := ⟨_, _, _, tyX5, rfl, tyX5_ok, nmX5, rfl, Or.inr ⟨rfl, rfl⟩⟩
theorem ff_X5_1 : tw_ff RX5 5 1 (tyX5 1) := ⟨_, _, _, tyX5, rfl, tyX5_ok, nmX5, rfl, Or.inr ⟨rfl, rfl⟩⟩
theorem ci_X11_64 : tw_cI RX11 64 yX5_init cX5_init 3 2 := ⟨List.forall_mem_cons.mpr ⟨(tw_inc tm_2 (i := 69) rfl rfl), List.forall_mem_cons.mpr ⟨(tw_inc tm_2 (i := 70) rfl rfl), List.forall_mem_cons.mpr ⟨(tw_inc tm_1 (i := 9) rfl rfl), List.forall_mem_cons.mpr ⟨(tw_inc tm_2 (i := 71) rfl rfl), fun _ h => absurd h List.not_mem_nil⟩⟩⟩⟩, rfl, by decide +kernel, by decide +kernel, by decide +kernel⟩
theorem ff_X11_9 : tw_ff RX11 11 9 (tyX11 9) := ⟨_, _, _, tyX11, rfl, tyX11_ok, nmX11, rfl, Or.inr ⟨rfl, rfl⟩⟩
theorem cn_X11_71 : tw_cn RX11 71 6 8 dfX6 := ⟨_, _, tyX6, rfl, in_X6, tyX6_ok, (tw_inc tm_2 (i := 123) rfl rfl), (tw_inc tm_2 (i := 124) rfl rfl), (tw_inc tm_1 (i := 10) rfl rfl), fun G j hj => match j, hj with | 0, _ => rfl | 1, _ => rfl | 2, _ => rfl | 3, _ => rfl | 4, _ => rfl | 5, _ => rfl | 6, _ => rfl | 7, _ => rfl | j + 8, h => absurd h (by omega)⟩
theorem oi_X6_3 : Cond.methodLink RX6 3 Lib.objectInit ∈ tw_ws ∧ Cond.instanceMethod Lib.objectInit ∈ tw_ws ∧ Cond.code Lib.objectInit ⟨#[0xb1]⟩ 1 none ∈ tw_ws := ⟨(tw_inc tm_2 (i := 128) rfl rfl), (tw_inc tm_1 (i := 25) rfl rfl), (tw_inc tm_1 (i := 26) rfl rfl)⟩
theorem ff_X6_1 : tw_ff RX6 6 1 (tyX6 1) := ⟨_, _, _, tyX6, rfl, tyX6_ok, nmX6, rfl, Or.inl rfl⟩
theorem ff_X6_2 : tw_ff RX6 6 2 (tyX6 2) := ⟨_, _, _, tyX6, rfl, tyX6_ok, nmX6, rfl, Or.inr ⟨rfl, rfl⟩⟩
theorem ff_X6_3 : tw_ff RX6 6 3 (tyX6 3) := ⟨_, _, _, tyX6, rfl, tyX6_ok, nmX6, rfl, Or.inr ⟨rfl, rfl⟩⟩
theorem ff_X6_4 : tw_ff RX6 6 4 (tyX6 4) := ⟨_, _, _, tyX6, rfl, tyX6_ok, nmX6, rfl, Or.inr ⟨rfl, rfl⟩⟩
theorem ff_X6_5 : tw_ff RX6 6 5 (tyX6 5) := ⟨_, _, _, tyX6, rfl, tyX6_ok, nmX6, rfl, Or.inr ⟨rfl, rfl⟩⟩
theorem ff_X6_6 : tw_ff RX6 6 6 (tyX6 6) := ⟨_, _, _, tyX6, rfl, tyX6_ok, nmX6, rfl, Or.inl rfl⟩
theorem ff_X6_7 : tw_ff RX6 6 7 (tyX6 7) := ⟨_, _, _, tyX6, rfl, tyX6_ok, nmX6, rfl, Or.inl rfl⟩
theorem ff_X6_0 : tw_ff RX6 6 0 (tyX6 0) := ⟨_, _, _, tyX6, rfl, tyX6_ok, nmX6, rfl, Or.inr ⟨rfl, rfl⟩⟩
theorem ci_X11_73 : tw_cI RX11 73 yX6_init cX6_init 2 1 := ⟨List.forall_mem_cons.mpr ⟨(tw_inc tm_2 (i := 125) rfl rfl), List.forall_mem_cons.mpr ⟨(tw_inc tm_2 (i := 126) rfl rfl), List.forall_mem_cons.mpr ⟨(tw_inc tm_1 (i := 10) rfl rfl), List.forall_mem_cons.mpr ⟨(tw_inc tm_2 (i := 127) rfl rfl), fun _ h => absurd h List.not_mem_nil⟩⟩⟩⟩, rfl, by decide +kernel, by decide +kernel, by decide +kernel⟩
theorem ff_X11_10 : tw_ff RX11 11 10 (tyX11 10) := ⟨_, _, _, tyX11, rfl, tyX11_ok, nmX11, rfl, Or.inr ⟨rfl, rfl⟩⟩
theorem cn_X11_78 : tw_cn RX11 78 0 6 dfX0 := ⟨_, _, tyX0, rfl, in_X0, tyX0_ok, (tw_inc tm_2 (i := 158) rfl rfl), (tw_inc tm_2 (i := 159) rfl rfl), (tw_inc tm_1 (i := 11) rfl rfl), fun G j hj => match j, hj with | 0, _ => rfl | 1, _ => rfl | 2, _ => rfl | 3, _ => rfl | 4, _ => rfl | 5, _ => rfl | j + 6, h => absurd h (by omega)⟩
theorem oi_X0_3 : Cond.methodLink RX0 3 Lib.objectInit ∈ tw_ws ∧ Cond.instanceMethod Lib.objectInit ∈ tw_ws ∧ Cond.code Lib.objectInit ⟨#[0xb1]⟩ 1 none ∈ tw_ws := ⟨(tw_inc tm_2 (i := 163) rfl rfl), (tw_inc tm_1 (i := 25) rfl rfl), (tw_inc tm_1 (i := 26) rfl rfl)⟩
theorem ff_X0_1 : tw_ff RX0 0 1 (tyX0 1) := ⟨_, _, _, tyX0, rfl, tyX0_ok, nmX0, rfl, Or.inl rfl⟩
theorem ff_X0_2 : tw_ff RX0 0 2 (tyX0 2) := ⟨_, _, _, tyX0, rfl, tyX0_ok, nmX0, rfl, Or.inr ⟨rfl, rfl⟩⟩
theorem ff_X0_3 : tw_ff RX0 0 3 (tyX0 3) := ⟨_, _, _, tyX0, rfl, tyX0_ok, nmX0, rfl, Or.inr ⟨rfl, rfl⟩⟩
theorem ff_X0_4 : tw_ff RX0 0 4 (tyX0 4) := ⟨_, _, _, tyX0, rfl, tyX0_ok, nmX0, rfl, Or.inl rfl⟩
theorem ff_X0_5 : tw_ff RX0 0 5 (tyX0 5) := ⟨_, _, _, tyX0, rfl, tyX0_ok, nmX0, rfl, Or.inl rfl⟩
theorem ff_X0_0 : tw_ff RX0 0 0 (tyX0 0) := ⟨_, _, _, tyX0, rfl, tyX0_ok, nmX0, rfl, Or.inr ⟨rfl, rfl⟩⟩
theorem ci_X11_80 : tw_cI RX11 80 yX0_init cX0_init 2 1 := ⟨List.forall_mem_cons.mpr ⟨(tw_inc tm_2 (i := 160) rfl rfl), List.forall_mem_cons.mpr ⟨(tw_inc tm_2 (i := 161) rfl rfl), List.forall_mem_cons.mpr ⟨(tw_inc tm_1 (i := 11) rfl rfl), List.forall_mem_cons.mpr ⟨(tw_inc tm_2 (i := 162) rfl rfl), fun _ h => absurd h List.not_mem_nil⟩⟩⟩⟩, rfl, by decide +kernel, by decide +kernel, by decide +kernel⟩
theorem ff_X11_11 : tw_ff RX11 11 11 (tyX11 11) := ⟨_, _, _, tyX11, rfl, tyX11_ok, nmX11, rfl, Or.inr ⟨rfl, rfl⟩⟩
theorem ao_q : Cond.classLink RX11 85 RX8 ∈ tw_ws := (tw_inc tm_2 (i := 186) rfl rfl)
theorem ff_X11_12 : tw_ff RX11 11 12 (tyX11 12) := ⟨_, _, _, tyX11, rfl, tyX11_ok, nmX11, rfl, Or.inr ⟨rfl, rfl⟩⟩
theorem ff_X11_13 : tw_ff RX11 11 13 (tyX11 13) := ⟨_, _, _, tyX11, rfl, tyX11_ok, nmX11, rfl, Or.inl rfl⟩
theorem ff_X11_14 : tw_ff RX11 11 14 (tyX11 14) := ⟨_, _, _, tyX11, rfl, tyX11_ok, nmX11, rfl, Or.inl rfl⟩
theorem cn_X11_85 : tw_cn RX11 85 8 4 dfX8 := ⟨_, _, tyX8, rfl, in_X8, tyX8_ok, (tw_inc tm_2 (i := 186) rfl rfl), (tw_inc tm_2 (i := 188) rfl rfl), (tw_inc tm_1 (i := 12) rfl rfl), fun G j hj => match j, hj with | 0, _ => rfl | 1, _ => rfl | 2, _ => rfl | 3, _ => rfl | j + 4, h => absurd h (by omega)⟩
theorem oi_X8_3 : Cond.methodLink RX8 3 Lib.objectInit ∈ tw_ws ∧ Cond.instanceMethod Lib.objectInit ∈ tw_ws ∧ Cond.code Lib.objectInit ⟨#[0xb1]⟩ 1 none ∈ tw_ws := ⟨(tw_inc tm_2 (i := 192) rfl rfl), (tw_inc tm_1 (i := 25) rfl rfl), (tw_inc tm_1 (i := 26) rfl rfl)⟩
theorem ff_X8_0 : tw_ff RX8 8 0 (tyX8 0) := ⟨_, _, _, tyX8, rfl, tyX8_ok, nmX8, rfl, Or.inr ⟨rfl, rfl⟩⟩
theorem ff_X8_1 : tw_ff RX8 8 1 (tyX8 1) := ⟨_, _, _, tyX8, rfl, tyX8_ok, nmX8, rfl, Or.inl rfl⟩
theorem ff_X8_2 : tw_ff RX8 8 2 (tyX8 2) := ⟨_, _, _, tyX8, rfl, tyX8_ok, nmX8, rfl, Or.inl rfl⟩
theorem ff_X8_3 : tw_ff RX8 8 3 (tyX8 3) := ⟨_, _, _, tyX8, rfl, tyX8_ok, nmX8, rfl, Or.inl rfl⟩
theorem ci_X11_98 : tw_cI RX11 98 yX8_init cX8_init 1 0 := ⟨List.forall_mem_cons.mpr ⟨(tw_inc tm_2 (i := 189) rfl rfl), List.forall_mem_cons.mpr ⟨(tw_inc tm_2 (i := 190) rfl rfl), List.forall_mem_cons.mpr ⟨(tw_inc tm_1 (i := 12) rfl rfl), List.forall_mem_cons.mpr ⟨(tw_inc tm_2 (i := 191) rfl rfl), fun _ h => absurd h List.not_mem_nil⟩⟩⟩⟩, rfl, by decide +kernel, by decide +kernel, by decide +kernel⟩
theorem oi_X12_1 : Cond.methodLink RX12 1 Lib.objectInit ∈ tw_ws ∧ Cond.instanceMethod Lib.objectInit ∈ tw_ws ∧ Cond.code Lib.objectInit ⟨#[0xb1]⟩ 1 none ∈ tw_ws := ⟨(tw_inc tm_5 (i := 235) rfl rfl), (tw_inc tm_1 (i := 25) rfl rfl), (tw_inc tm_1 (i := 26) rfl rfl)⟩
theorem ff_X12_0 : tw_ff RX12 12 0 (tyX12 0) := ⟨_, _, _, tyX12, rfl, tyX12_ok, nmX12, rfl, Or.inr ⟨rfl, rfl⟩⟩
theorem ff_X12_1 : tw_ff RX12 12 1 (tyX12 1) := ⟨_, _, _, tyX12, rfl, tyX12_ok, nmX12, rfl, Or.inr ⟨rfl, rfl⟩⟩
theorem ff_X12_2 : tw_ff RX12 12 2 (tyX12 2) := ⟨_, _, _, tyX12, rfl, tyX12_ok, nmX12, rfl, Or.inr ⟨rfl, rfl⟩⟩
theorem ff_X12_3 : tw_ff RX12 12 3 (tyX12 3) := ⟨_, _, _, tyX12, rfl, tyX12_ok, nmX12, rfl, Or.inr ⟨rfl, rfl⟩⟩
theorem ff_X12_4 : tw_ff RX12 12 4 (tyX12 4) := ⟨_, _, _, tyX12, rfl, tyX12_ok, nmX12, rfl, Or.inr ⟨rfl, rfl⟩⟩
theorem ff_X12_5 : tw_ff RX12 12 5 (tyX12 5) := ⟨_, _, _, tyX12, rfl, tyX12_ok, nmX12, rfl, Or.inr ⟨rfl, rfl⟩⟩
theorem ff_X12_6 : tw_ff RX12 12 6 (tyX12 6) := ⟨_, _, _, tyX12, rfl, tyX12_ok, nmX12, rfl, Or.inr ⟨rfl, rfl⟩⟩
theorem ff_X12_7 : tw_ff RX12 12 7 (tyX12 7) := ⟨_, _, _, tyX12, rfl, tyX12_ok, nmX12, rfl, Or.inr ⟨rfl, rfl⟩⟩
theorem ff_X12_8 : tw_ff RX12 12 8 (tyX12 8) := ⟨_, _, _, tyX12, rfl, tyX12_ok, nmX12, rfl, Or.inr ⟨rfl, rfl⟩⟩
theorem ff_X12_11 : tw_ff RX12 12 11 (tyX12 11) := ⟨_, _, _, tyX12, rfl, tyX12_ok, nmX12, rfl, Or.inr ⟨rfl, rfl⟩⟩
theorem ff_X12_28 : tw_ff RX12 12 28 (tyX12 28) := ⟨_, _, _, tyX12, rfl, tyX12_ok, nmX12, rfl, Or.inr ⟨rfl, rfl⟩⟩
theorem ff_X12_29 : tw_ff RX12 12 29 (tyX12 29) := ⟨_, _, _, tyX12, rfl, tyX12_ok, nmX12, rfl, Or.inr ⟨rfl, rfl⟩⟩
theorem ff_X12_31 : tw_ff RX12 12 31 (tyX12 31) := ⟨_, _, _, tyX12, rfl, tyX12_ok, nmX12, rfl, Or.inr ⟨rfl, rfl⟩⟩
theorem ff_X12_32 : tw_ff RX12 12 32 (tyX12 32) := ⟨_, _, _, tyX12, rfl, tyX12_ok, nmX12, rfl, Or.inr ⟨rfl, rfl⟩⟩
theorem ff_X12_33 : tw_ff RX12 12 33 (tyX12 33) := ⟨_, _, _, tyX12, rfl, tyX12_ok, nmX12, rfl, Or.inr ⟨rfl, rfl⟩⟩
theorem ff_X12_35 : tw_ff RX12 12 35 (tyX12 35) := ⟨_, _, _, tyX12, rfl, tyX12_ok, nmX12, rfl, Or.inr ⟨rfl, rfl⟩⟩
theorem ff_X12_36 : tw_ff RX12 12 36 (tyX12 36) := ⟨_, _, _, tyX12, rfl, tyX12_ok, nmX12, rfl, Or.inr ⟨rfl, rfl⟩⟩
theorem ff_X12_37 : tw_ff RX12 12 37 (tyX12 37) := ⟨_, _, _, tyX12, rfl, tyX12_ok, nmX12, rfl, Or.inr ⟨rfl, rfl⟩⟩
set_option maxHeartbeats 4000000 in
set_option maxRecDepth 100000 in
theorem kk_1 {G : tw_G} (σ : tw_M) (ρ : tw_R) (hσ : ∀ k, 1 ≤ k → k < 10 → ∀ j, σ k j = tw_ini k j) (hρ : ∀ k, 1 ≤ k → ρ k = none) (hI : tw_I0 σ) (hgt : tw_gt G) : tw_CC G yX10_init cX10_init 1 1 1 10 266 [] σ ρ (.inr (10, dfX10.map (tw_v G))) (fun τ => tw_I0 τ ∧ tw_F (fun c j => (1 + 1 ≤ c ∧ c < 1 + 9)) σ τ ∧ Wb (1 + 1) 2 τ 9 ∧ WBG 1 τ) := by
  refine tw_metC [(0, vR 1)] (by decide +kernel) rfl rfl (Nat.le_of_ble_eq_true rfl) ?_
  refine l_aload_n dX10_init_0 rfl rfl ?_
  refine l_objInit oi_X10_3 dX10_init_1 ⟨(Nat.le_of_ble_eq_true rfl), (Nat.le_of_ble_eq_true rfl)⟩ rfl ?_
  refine l_aload_n dX10_init_4 rfl rfl ?_
  refine l_bipush dX10_init_5 rfl ?_
  refine l_newaI (n := 2) (N := 9) ac_I dX10_init_7 rfl ((tw_r_ne (show (2 : Nat) ≠ 1 by decide)).trans (hρ 2 (by decide))) (fun j _ => (hσ 2 (by decide) (by decide) j).trans (tw_ini0 (by decide))) rfl (Nat.le_of_ble_eq_true rfl) (Nat.le_of_ble_eq_true rfl) (Nat.le_of_ble_eq_true rfl) ⟨(Nat.le_of_ble_eq_true rfl), (Nat.le_of_ble_eq_true rfl)⟩ ?_
  refine l_put (fs' := [vR 2, vV .null, vV .null, vV .null, vV .null, vV .null, vV .null, vV .null]) fl_X10_11 ff_X10_0 rfl dX10_init_9 (Nat.le_of_ble_eq_true rfl) (Nat.le_of_ble_eq_true rfl) rfl rfl (Nat.le_of_ble_eq_true rfl) rfl ?_
  refine l_aload_n dX10_init_12 rfl rfl ?_
  refine l_bipush dX10_init_13 rfl ?_
  refine l_newaI (n := 3) (N := 11) ac_I dX10_init_15 rfl ((tw_r_ne (show (3 : Nat) ≠ 1 by decide)).trans (hρ 3 (by decide))) (fun j _ => (hσ 3 (by decide) (by decide) j).trans (tw_ini0 (by decide))) rfl (Nat.le_of_ble_eq_true rfl) (Nat.le_of_ble_eq_true rfl) (Nat.le_of_ble_eq_true rfl) ⟨(Nat.le_of_ble_eq_true rfl), (Nat.le_of_ble_eq_true rfl)⟩ ?_
  refine l_put (fs' := [vR 2, vR 3, vV .null, vV .null, vV .null, vV .null, vV .null, vV .null]) fl_X10_15 ff_X10_1 rfl dX10_init_17 (Nat.le_of_ble_eq_true rfl) (Nat.le_of_ble_eq_true rfl) rfl rfl (Nat.le_of_ble_eq_true rfl) rfl ?_
  refine l_aload_n dX10_init_20 rfl rfl ?_
  refine l_bipush dX10_init_21 rfl ?_
  refine l_newaI (n := 4) (N := 41) ac_I dX10_init_23 rfl ((tw_r_ne (show (4 : Nat) ≠ 1 by decide)).trans (hρ 4 (by decide))) (fun j _ => (hσ 4 (by decide) (by decide) j).trans (tw_ini0 (by decide))) rfl (Nat.le_of_ble_eq_true rfl) (Nat.le_of_ble_eq_true rfl) (Nat.le_of_ble_eq_true rfl) ⟨(Nat.le_of_ble_eq_true rfl), (Nat.le_of_ble_eq_true rfl)⟩ ?_
  refine l_put (fs' := [vR 2, vR 3, vR 4, vV .null, vV .null, vV .null, vV .null, vV .null]) fl_X10_18 ff_X10_2 rfl dX10_init_25 (Nat.le_of_ble_eq_true rfl) (Nat.le_of_ble_eq_true rfl) rfl rfl (Nat.le_of_ble_eq_true rfl) rfl ?_
  refine l_aload_n dX10_init_28 rfl rfl ?_
  refine l_bipush dX10_init_29 rfl ?_
  refine l_newaI (n := 5) (N := 41) ac_I dX10_init_31 rfl ((tw_r_ne (show (5 : Nat) ≠ 1 by decide)).trans (hρ 5 (by decide))) (fun j _ => (hσ 5 (by decide) (by decide) j).trans (tw_ini0 (by decide))) rfl (Nat.le_of_ble_eq_true rfl) (Nat.le_of_ble_eq_true rfl) (Nat.le_of_ble_eq_true rfl) ⟨(Nat.le_of_ble_eq_true rfl), (Nat.le_of_ble_eq_true rfl)⟩ ?_
  refine l_put (fs' := [vR 2, vR 3, vR 4, vR 5, vV .null, vV .null, vV .null, vV .null]) fl_X10_21 ff_X10_3 rfl dX10_init_33 (Nat.le_of_ble_eq_true rfl) (Nat.le_of_ble_eq_true rfl) rfl rfl (Nat.le_of_ble_eq_true rfl) rfl ?_
  refine l_aload_n dX10_init_36 rfl rfl ?_
  refine l_bipush dX10_init_37 rfl ?_
  refine l_newaI (n := 6) (N := 41) ac_I dX10_init_39 rfl ((tw_r_ne (show (6 : Nat) ≠ 1 by decide)).trans (hρ 6 (by decide))) (fun j _ => (hσ 6 (by decide) (by decide) j).trans (tw_ini0 (by decide))) rfl (Nat.le_of_ble_eq_true rfl) (Nat.le_of_ble_eq_true rfl) (Nat.le_of_ble_eq_true rfl) ⟨(Nat.le_of_ble_eq_true rfl), (Nat.le_of_ble_eq_true rfl)⟩ ?_
  refine l_put (fs' := [vR 2, vR 3, vR 4, vR 5, vR 6, vV .null, vV .null, vV .null]) fl_X10_24 ff_X10_4 rfl dX10_init_41 (Nat.le_of_ble_eq_true rfl) (Nat.le_of_ble_eq_true rfl) rfl rfl (Nat.le_of_ble_eq_true rfl) rfl ?_
  refine l_aload_n dX10_init_44 rfl rfl ?_
  refine l_bipush dX10_init_45 rfl ?_
  refine l_newaI (n := 7) (N := 41) ac_I dX10_init_47 rfl ((tw_r_ne (show (7 : Nat) ≠ 1 by decide)).trans (hρ 7 (by decide))) (fun j _ => (hσ 7 (by decide) (by decide) j).trans (tw_ini0 (by decide))) rfl (Nat.le_of_ble_eq_true rfl) (Nat.le_of_ble_eq_true rfl) (Nat.le_of_ble_eq_true rfl) ⟨(Nat.le_of_ble_eq_true rfl), (Nat.le_of_ble_eq_true rfl)⟩ ?_
  refine l_put (fs' := [vR 2, vR 3, vR 4, vR 5, vR 6, vR 7, vV .null, vV .null]) fl_X10_27 ff_X10_5 rfl dX10_init_49 (Nat.le_of_ble_eq_true rfl) (Nat.le_of_ble_eq_true rfl) rfl rfl (Nat.le_of_ble_eq_true rfl) rfl ?_
  refine l_aload_n dX10_init_52 rfl rfl ?_
  refine l_bipush dX10_init_53 rfl ?_
  refine l_newaI (n := 8) (N := 41) ac_I dX10_init_55 rfl ((tw_r_ne (show (8 : Nat) ≠ 1 by decide)).trans (hρ 8 (by decide))) (fun j _ => (hσ 8 (by decide) (by decide) j).trans (tw_ini0 (by decide))) rfl (Nat.le_of_ble_eq_true rfl) (Nat.le_of_ble_eq_true rfl) (Nat.le_of_ble_eq_true rfl) ⟨(Nat.le_of_ble_eq_true rfl), (Nat.le_of_ble_eq_true rfl)⟩ ?_
  refine l_put (fs' := [vR 2, vR 3, vR 4, vR 5, vR 6, vR 7, vR 8, vV .null]) fl_X10_30 ff_X10_6 rfl dX10_init_57 (Nat.le_of_ble_eq_true rfl) (Nat.le_of_ble_eq_true rfl) rfl rfl (Nat.le_of_ble_eq_true rfl) rfl ?_
  refine l_aload_n dX10_init_60 rfl rfl ?_
  refine l_bipush dX10_init_61 rfl ?_
  refine l_newaI (n := 9) (N := 41) ac_I dX10_init_63 rfl ((tw_r_ne (show (9 : Nat) ≠ 1 by decide)).trans (hρ 9 (by decide))) (fun j _ => (hσ 9 (by decide) (by decide) j).trans (tw_ini0 (by decide))) rfl (Nat.le_of_ble_eq_true rfl) (Nat.le_of_ble_eq_true rfl) (Nat.le_of_ble_eq_true rfl) ⟨(Nat.le_of_ble_eq_true rfl), (Nat.le_of_ble_eq_true rfl)⟩ ?_
  refine l_put (fs' := [vR 2, vR 3, vR 4, vR 5, vR 6, vR 7, vR 8, vR 9]) fl_X10_33 ff_X10_7 rfl dX10_init_65 (Nat.le_of_ble_eq_true rfl) (Nat.le_of_ble_eq_true rfl) rfl rfl (Nat.le_of_ble_eq_true rfl) rfl ?_
  refine l_aload_n dX10_init_68 rfl rfl ?_
  refine l_fin (hρ 1 (by decide)) ((tw_e_cg (fun j => hσ 1 (by decide) (by decide) j)).trans rfl) ?_
  refine l_callV (ks := List.range' 1 9) (o := 1) (k := 0) (sl := [4, 5, 6, 7, 8, 9, 10, 11]) (c0_X10_begin 1 (wallOf1 hgt) σ hI) mv_X10_36 rfl rfl rfl rfl (Nat.le_of_ble_eq_true rfl) (hρ 1 (by decide)) dX10_init_69 ⟨(Nat.le_of_ble_eq_true rfl), (Nat.le_of_ble_eq_true rfl)⟩ ⟨(Nat.le_of_ble_eq_true rfl), (Nat.le_of_ble_eq_true rfl)⟩ (Nat.le_of_ble_eq_true rfl) (by decide) (fun k hk => ⟨by have := List.mem_range'_1.mp hk; omega, hρ k (by have := List.mem_range'_1.mp hk; omega)⟩) rfl (Nat.le_of_ble_eq_true rfl) rfl (fun z τ hq => ⟨hq.1, fun k hk j => hq.2.2.1 k j (fun h => hk (List.mem_range'_1.mpr (by omega)))⟩) (fun τb hqτb => ?_)
  exact l_vret dX10_init_72 rfl rfl (Nat.le_of_ble_eq_true rfl) (Nat.le_of_ble_eq_true rfl) hqτb.2
set_option maxHeartbeats 4000000 in
set_option maxRecDepth 100000 in
theorem kk_14 {G : tw_G} (σ : tw_M) (ρ : tw_R) (hσ : ∀ k, 14 ≤ k → k < 23 → ∀ j, σ k j = tw_ini k j) (hρ : ∀ k, 14 ≤ k → ρ k = none) (hI : tw_I0 σ) (hgt : tw_gt G) : tw_CC G yX10_init cX10_init 1 1 14 23 266 [] σ ρ (.inr (10, dfX10.map (tw_v G))) (fun τ => tw_I0 τ ∧ tw_F (fun c j => (14 + 1 ≤ c ∧ c < 14 + 9)) σ τ ∧ Wb (14 + 1) 2 τ 9 ∧ WBG 14 τ) := by
  refine tw_metC [(0, vR 14)] (by decide +kernel) rfl rfl (Nat.le_of_ble_eq_true rfl) ?_
  refine l_aload_n dX10_init_0 rfl rfl ?_
  refine l_objInit oi_X10_3 dX10_init_1 ⟨(Nat.le_of_ble_eq_true rfl), (Nat.le_of_ble_eq_true rfl)⟩ rfl ?_
  refine l_aload_n dX10_init_4 rfl rfl ?_
  refine l_bipush dX10_init_5 rfl ?_
  refine l_newaI (n := 15) (N := 9) ac_I dX10_init_7 rfl ((tw_r_ne (show (15 : Nat) ≠ 14 by decide)).trans (hρ 15 (by decide))) (fun j _ => (hσ 15 (by decide) (by decide) j).trans (tw_ini0 (by decide))) rfl (Nat.le_of_ble_eq_true rfl) (Nat.le_of_ble_eq_true rfl) (Nat.le_of_ble_eq_true rfl) ⟨(Nat.le_of_ble_eq_true rfl), (Nat.le_of_ble_eq_true rfl)⟩ ?_
  refine l_put (fs' := [vR 15, vV .null, vV .null, vV .null, vV .null, vV .null, vV .null, vV .null]) fl_X10_11 ff_X10_0 rfl dX10_init_9 (Nat.le_of_ble_eq_true rfl) (Nat.le_of_ble_eq_true rfl) rfl rfl (Nat.le_of_ble_eq_true rfl) rfl ?_
  refine l_aload_n dX10_init_12 rfl rfl ?_
  refine l_bipush dX10_init_13 rfl ?_
  refine l_newaI (n := 16) (N := 11) ac_I dX10_init_15 rfl ((tw_r_ne (show (16 : Nat) ≠ 14 by decide)).trans (hρ 16 (by decide))) (fun j _ => (hσ 16 (by decide) (by decide) j).trans (tw_ini0 (by decide))) rfl (Nat.le_of_ble_eq_true rfl) (Nat.le_of_ble_eq_true rfl) (Nat.le_of_ble_eq_true rfl) ⟨(Nat.le_of_ble_eq_true rfl), (Nat.le_of_ble_eq_true rfl)⟩ ?_
  refine l_put (fs' := [vR 15, vR 16, vV .null, vV .null, vV .null, vV .null, vV .null, vV .null]) fl_X10_15 ff_X10_1 rfl dX10_init_17 (Nat.le_of_ble_eq_true rfl) (Nat.le_of_ble_eq_true rfl) rfl rfl (Nat.le_of_ble_eq_true rfl) rfl ?_
  refine l_aload_n dX10_init_20 rfl rfl ?_
  refine l_bipush dX10_init_21 rfl ?_
  refine l_newaI (n := 17) (N := 41) ac_I dX10_init_23 rfl ((tw_r_ne (show (17 : Nat) ≠ 14 by decide)).trans (hρ 17 (by decide))) (fun j _ => (hσ 17 (by decide) (by decide) j).trans (tw_ini0 (by decide))) rfl (Nat.le_of_ble_eq_true rfl) (Nat.le_of_ble_eq_true rfl) (Nat.le_of_ble_eq_true rfl) ⟨(Nat.le_of_ble_eq_true rfl), (Nat.le_of_ble_eq_true rfl)⟩ ?_
  refine l_put (fs' := [vR 15, vR 16, vR 17, vV .null, vV .null, vV .null, vV .null, vV .null]) fl_X10_18 ff_X10_2 rfl dX10_init_25 (Nat.le_of_ble_eq_true rfl) (Nat.le_of_ble_eq_true rfl) rfl rfl (Nat.le_of_ble_eq_true rfl) rfl ?_
  refine l_aload_n dX10_init_28 rfl rfl ?_
  refine l_bipush dX10_init_29 rfl ?_
  refine l_newaI (n := 18) (N := 41) ac_I dX10_init_31 rfl ((tw_r_ne (show (18 : Nat) ≠ 14 by decide)).trans (hρ 18 (by decide))) (fun j _ => (hσ 18 (by decide) (by decide) j).trans (tw_ini0 (by decide))) rfl (Nat.le_of_ble_eq_true rfl) (Nat.le_of_ble_eq_true rfl) (Nat.le_of_ble_eq_true rfl) ⟨(Nat.le_of_ble_eq_true rfl), (Nat.le_of_ble_eq_true rfl)⟩ ?_
  refine l_put (fs' := [vR 15, vR 16, vR 17, vR 18, vV .null, vV .null, vV .null, vV .null]) fl_X10_21 ff_X10_3 rfl dX10_init_33 (Nat.le_of_ble_eq_true rfl) (Nat.le_of_ble_eq_true rfl) rfl rfl (Nat.le_of_ble_eq_true rfl) rfl ?_
  refine l_aload_n dX10_init_36 rfl rfl ?_
  refine l_bipush dX10_init_37 rfl ?_
  refine l_newaI (n := 19) (N := 41) ac_I dX10_init_39 rfl ((tw_r_ne (show (19 : Nat) ≠ 14 by decide)).trans (hρ 19 (by decide))) (fun j _ => (hσ 19 (by decide) (by decide) j).trans (tw_ini0 (by decide))) rfl (Nat.le_of_ble_eq_true rfl) (Nat.le_of_ble_eq_true rfl) (Nat.le_of_ble_eq_true rfl) ⟨(Nat.le_of_ble_eq_true rfl), (Nat.le_of_ble_eq_true rfl)⟩ ?_
  refine l_put (fs' := [vR 15, vR 16, vR 17, vR 18, vR 19, vV .null, vV .null, vV .null]) fl_X10_24 ff_X10_4 rfl dX10_init_41 (Nat.le_of_ble_eq_true rfl) (Nat.le_of_ble_eq_true rfl) rfl rfl (Nat.le_of_ble_eq_true rfl) rfl ?_
  refine l_aload_n dX10_init_44 rfl rfl ?_
  refine l_bipush dX10_init_45 rfl ?_
  refine l_newaI (n := 20) (N := 41) ac_I dX10_init_47 rfl ((tw_r_ne (show (20 : Nat) ≠ 14 by decide)).trans (hρ 20 (by decide))) (fun j _ => (hσ 20 (by decide) (by decide) j).trans (tw_ini0 (by decide))) rfl (Nat.le_of_ble_eq_true rfl) (Nat.le_of_ble_eq_true rfl) (Nat.le_of_ble_eq_true rfl) ⟨(Nat.le_of_ble_eq_true rfl), (Nat.le_of_ble_eq_true rfl)⟩ ?_
  refine l_put (fs' := [vR 15, vR 16, vR 17, vR 18, vR 19, vR 20, vV .null, vV .null]) fl_X10_27 ff_X10_5 rfl dX10_init_49 (Nat.le_of_ble_eq_true rfl) (Nat.le_of_ble_eq_true rfl) rfl rfl (Nat.le_of_ble_eq_true rfl) rfl ?_
  refine l_aload_n dX10_init_52 rfl rfl ?_
  refine l_bipush dX10_init_53 rfl ?_
  refine l_newaI (n := 21) (N := 41) ac_I dX10_init_55 rfl ((tw_r_ne (show (21 : Nat) ≠ 14 by decide)).trans (hρ 21 (by decide))) (fun j _ => (hσ 21 (by decide) (by decide) j).trans (tw_ini0 (by decide))) rfl (Nat.le_of_ble_eq_true rfl) (Nat.le_of_ble_eq_true rfl) (Nat.le_of_ble_eq_true rfl) ⟨(Nat.le_of_ble_eq_true rfl), (Nat.le_of_ble_eq_true rfl)⟩ ?_
  refine l_put (fs' := [vR 15, vR 16, vR 17, vR 18, vR 19, vR 20, vR 21, vV .null]) fl_X10_30 ff_X10_6 rfl dX10_init_57 (Nat.le_of_ble_eq_true rfl) (Nat.le_of_ble_eq_true rfl) rfl rfl (Nat.le_of_ble_eq_true rfl) rfl ?_
  refine l_aload_n dX10_init_60 rfl rfl ?_
  refine l_bipush dX10_init_61 rfl ?_
  refine l_newaI (n := 22) (N := 41) ac_I dX10_init_63 rfl ((tw_r_ne (show (22 : Nat) ≠ 14 by decide)).trans (hρ 22 (by decide))) (fun j _ => (hσ 22 (by decide) (by decide) j).trans (tw_ini0 (by decide))) rfl (Nat.le_of_ble_eq_true rfl) (Nat.le_of_ble_eq_true rfl) (Nat.le_of_ble_eq_true rfl) ⟨(Nat.le_of_ble_eq_true rfl), (Nat.le_of_ble_eq_true rfl)⟩ ?_
  refine l_put (fs' := [vR 15, vR 16, vR 17, vR 18, vR 19, vR 20, vR 21, vR 22]) fl_X10_33 ff_X10_7 rfl dX10_init_65 (Nat.le_of_ble_eq_true rfl) (Nat.le_of_ble_eq_true rfl) rfl rfl (Nat.le_of_ble_eq_true rfl) rfl ?_
  refine l_aload_n dX10_init_68 rfl rfl ?_
  refine l_fin (hρ 14 (by decide)) ((tw_e_cg (fun j => hσ 14 (by decide) (by decide) j)).trans rfl) ?_
  refine l_callV (ks := List.range' 14 9) (o := 14) (k := 0) (sl := [17, 18, 19, 20, 21, 22, 23, 24]) (c0_X10_begin 14 (wallOf14 hgt) σ hI) mv_X10_36 rfl rfl rfl rfl (Nat.le_of_ble_eq_true rfl) (hρ 14 (by decide)) dX10_init_69 ⟨(Nat.le_of_ble_eq_true rfl), (Nat.le_of_ble_eq_true rfl)⟩ ⟨(Nat.le_of_ble_eq_true rfl), (Nat.le_of_ble_eq_true rfl)⟩ (Nat.le_of_ble_eq_true rfl) (by decide) (fun k hk => ⟨by have := List.mem_range'_1.mp hk; omega, hρ k (by have := List.mem_range'_1.mp hk; omega)⟩) rfl (Nat.le_of_ble_eq_true rfl) rfl (fun z τ hq => ⟨hq.1, fun k hk j => hq.2.2.1 k j (fun h => hk (List.mem_range'_1.mpr (by omega)))⟩) (fun τb hqτb => ?_)
  exact l_vret dX10_init_72 rfl rfl (Nat.le_of_ble_eq_true rfl) (Nat.le_of_ble_eq_true rfl) hqτb.2
set_option maxHeartbeats 4000000 in
set_option maxRecDepth 100000 in
theorem kk_10 {G : tw_G} (σ : tw_M) (ρ : tw_R) (hσ : ∀ k, 10 ≤ k → k < 23 → ∀ j, σ k j = tw_ini k j) (hρ : ∀ k, 10 ≤ k → ρ k = none) (hI : tw_I0 σ) (hgt : tw_gt G) : tw_CC G yX9_init cX9_init 1 2 10 23 726 [] σ ρ (.inr (9, dfX9.map (tw_v G))) (fun τ => tw_I0 τ ∧ tw_F (fun c j => (14 + 1 ≤ c ∧ c < 14 + 9)) σ τ ∧ Wb (14 + 1) 2 τ 9 ∧ WBG 14 τ) := by
  refine tw_metC [(0, vR 10)] (by decide +kernel) rfl rfl (Nat.le_of_ble_eq_true rfl) ?_
  refine l_aload_n dX9_init_0 rfl rfl ?_
  refine l_objInit oi_X9_3 dX9_init_1 ⟨(Nat.le_of_ble_eq_true rfl), (Nat.le_of_ble_eq_true rfl)⟩ rfl ?_
  refine l_aload_n dX9_init_4 rfl rfl ?_
  refine l_sipush dX9_init_5 rfl ?_
  refine l_newaB (n := 11) (N := 400) ac_B dX9_init_8 rfl ((tw_r_ne (show (11 : Nat) ≠ 10 by decide)).trans (hρ 11 (by decide))) (fun j _ => (hσ 11 (by decide) (by decide) j).trans (tw_ini0 (by decide))) rfl (Nat.le_of_ble_eq_true rfl) (Nat.le_of_ble_eq_true rfl) (Nat.le_of_ble_eq_true rfl) ⟨(Nat.le_of_ble_eq_true rfl), (Nat.le_of_ble_eq_true rfl)⟩ ?_
  refine l_put (fs' := [vR 11, vV .null, vV .null, vI 0, vI 0, vI 0, vI 0, vI 0, vI 0, vV .null, vI 0, vI 0, vI 0, vI 0]) fl_X9_9 ff_X9_0 rfl dX9_init_10 (Nat.le_of_ble_eq_true rfl) (Nat.le_of_ble_eq_true rfl) rfl rfl (Nat.le_of_ble_eq_true rfl) rfl ?_
  refine l_aload_n dX9_init_13 rfl rfl ?_
  refine l_bipush dX9_init_14 rfl ?_
  refine l_newaZ (n := 12) (N := 41) ac_Z dX9_init_16 rfl ((tw_r_ne (show (12 : Nat) ≠ 10 by decide)).trans (hρ 12 (by decide))) (fun j _ => (hσ 12 (by decide) (by decide) j).trans (tw_ini0 (by decide))) rfl (Nat.le_of_ble_eq_true rfl) (Nat.le_of_ble_eq_true rfl) (Nat.le_of_ble_eq_true rfl) ⟨(Nat.le_of_ble_eq_true rfl), (Nat.le_of_ble_eq_true rfl)⟩ ?_
  refine l_put (fs' := [vR 11, vR 12, vV .null, vI 0, vI 0, vI 0, vI 0, vI 0, vI 0, vV .null, vI 0, vI 0, vI 0, vI 0]) fl_X9_15 ff_X9_1 rfl dX9_init_18 (Nat.le_of_ble_eq_true rfl) (Nat.le_of_ble_eq_true rfl) rfl rfl (Nat.le_of_ble_eq_true rfl) rfl ?_
  refine l_aload_n dX9_init_21 rfl rfl ?_
  refine l_bipush dX9_init_22 rfl ?_
  refine l_newaZ (n := 13) (N := 11) ac_Z dX9_init_24 rfl ((tw_r_ne (show (13 : Nat) ≠ 10 by decide)).trans (hρ 13 (by decide))) (fun j _ => (hσ 13 (by decide) (by decide) j).trans (tw_ini0 (by decide))) rfl (Nat.le_of_ble_eq_true rfl) (Nat.le_of_ble_eq_true rfl) (Nat.le_of_ble_eq_true rfl) ⟨(Nat.le_of_ble_eq_true rfl), (Nat.le_of_ble_eq_true rfl)⟩ ?_
  refine l_put (fs' := [vR 11, vR 12, vR 13, vI 0, vI 0, vI 0, vI 0, vI 0, vI 0, vV .null, vI 0, vI 0, vI 0, vI 0]) fl_X9_19 ff_X9_2 rfl dX9_init_26 (Nat.le_of_ble_eq_true rfl) (Nat.le_of_ble_eq_true rfl) rfl rfl (Nat.le_of_ble_eq_true rfl) rfl ?_
  refine l_aload_n dX9_init_29 rfl rfl ?_
  refine l_new cn_X9_22 dX9_init_30 (Nat.le_of_ble_eq_true rfl) (Nat.le_of_ble_eq_true rfl) ⟨(Nat.le_of_ble_eq_true rfl), (Nat.le_of_ble_eq_true rfl)⟩ ?_
  refine l_dup dX9_init_33 rfl ?_
  refine l_callI (kk_14 (G := G) σ (tw_ro G ρ 10 9 [vR 11, vR 12, vR 13, vI 0, vI 0, vI 0, vI 0, vI 0, vI 0, vV .null, vI 0, vI 0, vI 0, vI 0]) (fun k h1 h2 j => hσ k (by omega) (by omega) j) (fun k hk => (tw_r_ne (show k ≠ 10 by omega)).trans (hρ k (by omega))) hI hgt) ci_X9_24 rfl dX9_init_34 ⟨(Nat.le_of_ble_eq_true rfl), (Nat.le_of_ble_eq_true rfl)⟩ ⟨(Nat.le_of_ble_eq_true rfl), (Nat.le_of_ble_eq_true rfl)⟩ (Nat.le_of_ble_eq_true rfl) (Nat.le_of_ble_eq_true rfl) (Nat.le_of_ble_eq_true rfl) rfl (Nat.le_of_ble_eq_true rfl) rfl (fun τ14 hτ14 => ?_)
  obtain ⟨hI14, hF14, hW14, hB14⟩ := hτ14
  refine l_put (fs' := [vR 11, vR 12, vR 13, vI 0, vI 0, vI 0, vI 0, vI 0, vI 0, vR 14, vI 0, vI 0, vI 0, vI 0]) fl_X9_25 ff_X9_9 rfl dX9_init_37 (Nat.le_of_ble_eq_true rfl) (Nat.le_of_ble_eq_true rfl) rfl rfl (Nat.le_of_ble_eq_true rfl) rfl ?_
  refine l_aload_n dX9_init_40 rfl rfl ?_
  refine l_iconst dX9_init_41 ?_
  refine l_put (fs' := [vR 11, vR 12, vR 13, vI 0, vI 0, vI 0, vI 0, vI 0, vI 0, vR 14, vI 0, vI 0, vI 0, vI 0]) fl_X9_29 ff_X9_10 rfl dX9_init_42 (Nat.le_of_ble_eq_true rfl) (Nat.le_of_ble_eq_true rfl) rfl rfl (Nat.le_of_ble_eq_true rfl) rfl ?_
  refine l_aload_n dX9_init_45 rfl rfl ?_
  refine l_iconst dX9_init_46 ?_
  refine l_put (fs' := [vR 11, vR 12, vR 13, vI 0, vI 0, vI 0, vI 0, vI 0, vI 0, vR 14, vI 0, vI 0, vI 0, vI 0]) fl_X9_33 ff_X9_11 rfl dX9_init_47 (Nat.le_of_ble_eq_true rfl) (Nat.le_of_ble_eq_true rfl) rfl rfl (Nat.le_of_ble_eq_true rfl) rfl ?_
  refine l_aload_n dX9_init_50 rfl rfl ?_
  refine l_iconst dX9_init_51 ?_
  refine l_put (fs' := [vR 11, vR 12, vR 13, vI 0, vI 0, vI 0, vI 0, vI 0, vI 0, vR 14, vI 0, vI 0, vI 0, vI 0]) fl_X9_36 ff_X9_12 rfl dX9_init_52 (Nat.le_of_ble_eq_true rfl) (Nat.le_of_ble_eq_true rfl) rfl rfl (Nat.le_of_ble_eq_true rfl) rfl ?_
  refine l_aload_n dX9_init_55 rfl rfl ?_
  refine l_iconst dX9_init_56 ?_
  refine l_put (fs' := [vR 11, vR 12, vR 13, vI 0, vI 0, vI 0, vI 0, vI 0, vI 0, vR 14, vI 0, vI 0, vI 0, vI 0]) fl_X9_39 ff_X9_13 rfl dX9_init_57 (Nat.le_of_ble_eq_true rfl) (Nat.le_of_ble_eq_true rfl) rfl rfl (Nat.le_of_ble_eq_true rfl) rfl ?_
  refine l_fin (hρ 10 (by decide)) ((tw_e_cg (fun j => (hF14 10 j (by omega)).trans (hσ 10 (by decide) (by decide) j))).trans rfl) ?_
  exact l_vret dX9_init_60 rfl rfl (Nat.le_of_ble_eq_true rfl) (Nat.le_of_ble_eq_true rfl) ⟨hI14, hF14, hW14, hB14⟩
set_option maxHeartbeats 4000000 in
set_option maxRecDepth 100000 in
theorem kk_24 {G : tw_G} (σ : tw_M) (ρ : tw_R) (hσ : ∀ k, 24 ≤ k → k < 28 → ∀ j, σ k j = tw_ini k j) (hρ : ∀ k, 24 ≤ k → ρ k = none) : tw_CC G yX7_init cX7_init 1 1 24 28 30 [] σ ρ (.inr (7, dfX7.map (tw_v G))) (fun τ => σ = τ) := by
  refine tw_metC [(0, vR 24)] (by decide +kernel) rfl rfl (Nat.le_of_ble_eq_true rfl) ?_
  refine l_aload_n dX7_init_0 rfl rfl ?_
  refine l_objInit oi_X7_3 dX7_init_1 ⟨(Nat.le_of_ble_eq_true rfl), (Nat.le_of_ble_eq_true rfl)⟩ rfl ?_
  refine l_aload_n dX7_init_4 rfl rfl ?_
  refine l_iconst dX7_init_5 ?_
  refine l_put (fs' := [vI 0, vV .null, vV .null, vV .null]) fl_X7_9 ff_X7_0 rfl dX7_init_6 (Nat.le_of_ble_eq_true rfl) (Nat.le_of_ble_eq_true rfl) rfl rfl (Nat.le_of_ble_eq_true rfl) rfl ?_
  refine l_aload_n dX7_init_9 rfl rfl ?_
  refine l_bipush dX7_init_10 rfl ?_
  refine l_newaI (n := 25) (N := 10) ac_I dX7_init_12 rfl ((tw_r_ne (show (25 : Nat) ≠ 24 by decide)).trans (hρ 25 (by decide))) (fun j _ => (hσ 25 (by decide) (by decide) j).trans (tw_ini0 (by decide))) rfl (Nat.le_of_ble_eq_true rfl) (Nat.le_of_ble_eq_true rfl) (Nat.le_of_ble_eq_true rfl) ⟨(Nat.le_of_ble_eq_true rfl), (Nat.le_of_ble_eq_true rfl)⟩ ?_
  refine l_put (fs' := [vI 0, vR 25, vV .null, vV .null]) fl_X7_15 ff_X7_1 rfl dX7_init_14 (Nat.le_of_ble_eq_true rfl) (Nat.le_of_ble_eq_true rfl) rfl rfl (Nat.le_of_ble_eq_true rfl) rfl ?_
  refine l_aload_n dX7_init_17 rfl rfl ?_
  refine l_bipush dX7_init_18 rfl ?_
  refine l_newaI (n := 26) (N := 10) ac_I dX7_init_20 rfl ((tw_r_ne (show (26 : Nat) ≠ 24 by decide)).trans (hρ 26 (by decide))) (fun j _ => (hσ 26 (by decide) (by decide) j).trans (tw_ini0 (by decide))) rfl (Nat.le_of_ble_eq_true rfl) (Nat.le_of_ble_eq_true rfl) (Nat.le_of_ble_eq_true rfl) ⟨(Nat.le_of_ble_eq_true rfl), (Nat.le_of_ble_eq_true rfl)⟩ ?_
  refine l_put (fs' := [vI 0, vR 25, vR 26, vV .null]) fl_X7_19 ff_X7_2 rfl dX7_init_22 (Nat.le_of_ble_eq_true rfl) (Nat.le_of_ble_eq_true rfl) rfl rfl (Nat.le_of_ble_eq_true rfl) rfl ?_
  refine l_aload_n dX7_init_25 rfl rfl ?_
  refine l_bipush dX7_init_26 rfl ?_
  refine l_newaI (n := 27) (N := 10) ac_I dX7_init_28 rfl ((tw_r_ne (show (27 : Nat) ≠ 24 by decide)).trans (hρ 27 (by decide))) (fun j _ => (hσ 27 (by decide) (by decide) j).trans (tw_ini0 (by decide))) rfl (Nat.le_of_ble_eq_true rfl) (Nat.le_of_ble_eq_true rfl) (Nat.le_of_ble_eq_true rfl) ⟨(Nat.le_of_ble_eq_true rfl), (Nat.le_of_ble_eq_true rfl)⟩ ?_
  refine l_put (fs' := [vI 0, vR 25, vR 26, vR 27]) fl_X7_22 ff_X7_3 rfl dX7_init_30 (Nat.le_of_ble_eq_true rfl) (Nat.le_of_ble_eq_true rfl) rfl rfl (Nat.le_of_ble_eq_true rfl) rfl ?_
  refine l_fin (hρ 24 (by decide)) ((tw_e_cg (fun j => hσ 24 (by decide) (by decide) j)).trans rfl) ?_
  exact l_vret dX7_init_33 rfl rfl (Nat.le_of_ble_eq_true rfl) (Nat.le_of_ble_eq_true rfl) rfl
set_option maxHeartbeats 4000000 in
set_option maxRecDepth 100000 in
theorem kk_23 {G : tw_G} (σ : tw_M) (ρ : tw_R) (hσ : ∀ k, 23 ≤ k → k < 31 → ∀ j, σ k j = tw_ini k j) (hρ : ∀ k, 23 ≤ k → ρ k = none) : tw_CC G yX3_init cX3_init 1 2 23 31 49 [] σ ρ (.inr (3, dfX3.map (tw_v G))) (fun τ => σ = τ) := by
  refine tw_metC [(0, vR 23)] (by decide +kernel) rfl rfl (Nat.le_of_ble_eq_true rfl) ?_
  refine l_aload_n dX3_init_0 rfl rfl ?_
  refine l_objInit oi_X3_3 dX3_init_1 ⟨(Nat.le_of_ble_eq_true rfl), (Nat.le_of_ble_eq_true rfl)⟩ rfl ?_
  refine l_aload_n dX3_init_4 rfl rfl ?_
  refine l_new cn_X3_9 dX3_init_5 (Nat.le_of_ble_eq_true rfl) (Nat.le_of_ble_eq_true rfl) ⟨(Nat.le_of_ble_eq_true rfl), (Nat.le_of_ble_eq_true rfl)⟩ ?_
  refine l_dup dX3_init_8 rfl ?_
  refine l_callI (kk_24 (G := G) σ (tw_ro G ρ 23 3 [vV .null, vV .null, vV .null, vV .null, vI 0, vI 0, vI 0]) (fun k h1 h2 j => hσ k (by omega) (by omega) j) (fun k hk => (tw_r_ne (show k ≠ 23 by omega)).trans (hρ k (by omega)))) ci_X3_11 rfl dX3_init_9 ⟨(Nat.le_of_ble_eq_true rfl), (Nat.le_of_ble_eq_true rfl)⟩ ⟨(Nat.le_of_ble_eq_true rfl), (Nat.le_of_ble_eq_true rfl)⟩ (Nat.le_of_ble_eq_true rfl) (Nat.le_of_ble_eq_true rfl) (Nat.le_of_ble_eq_true rfl) rfl (Nat.le_of_ble_eq_true rfl) rfl (fun τ24 hτ24 => ?_)
  subst hτ24
  refine l_put (fs' := [vR 24, vV .null, vV .null, vV .null, vI 0, vI 0, vI 0]) fl_X3_12 ff_X3_0 rfl dX3_init_12 (Nat.le_of_ble_eq_true rfl) (Nat.le_of_ble_eq_true rfl) rfl rfl (Nat.le_of_ble_eq_true rfl) rfl ?_
  refine l_aload_n dX3_init_15 rfl rfl ?_
  refine l_bipush dX3_init_16 rfl ?_
  refine l_newaI (n := 28) (N := 11) ac_I dX3_init_18 rfl ((tw_r_ne (show (28 : Nat) ≠ 23 by decide)).trans (hρ 28 (by decide))) (fun j _ => (hσ 28 (by decide) (by decide) j).trans (tw_ini0 (by decide))) rfl (Nat.le_of_ble_eq_true rfl) (Nat.le_of_ble_eq_true rfl) (Nat.le_of_ble_eq_true rfl) ⟨(Nat.le_of_ble_eq_true rfl), (Nat.le_of_ble_eq_true rfl)⟩ ?_
  refine l_put (fs' := [vR 24, vR 28, vV .null, vV .null, vI 0, vI 0, vI 0]) fl_X3_18 ff_X3_1 rfl dX3_init_20 (Nat.le_of_ble_eq_true rfl) (Nat.le_of_ble_eq_true rfl) rfl rfl (Nat.le_of_ble_eq_true rfl) rfl ?_
  refine l_aload_n dX3_init_23 rfl rfl ?_
  refine l_iconst dX3_init_24 ?_
  refine l_newaI (n := 29) (N := 2) ac_I dX3_init_25 rfl ((tw_r_ne (show (29 : Nat) ≠ 23 by decide)).trans (hρ 29 (by decide))) (fun j _ => (hσ 29 (by decide) (by decide) j).trans (tw_ini0 (by decide))) rfl (Nat.le_of_ble_eq_true rfl) (Nat.le_of_ble_eq_true rfl) (Nat.le_of_ble_eq_true rfl) ⟨(Nat.le_of_ble_eq_true rfl), (Nat.le_of_ble_eq_true rfl)⟩ ?_
  refine l_put (fs' := [vR 24, vR 28, vR 29, vV .null, vI 0, vI 0, vI 0]) fl_X3_22 ff_X3_2 rfl dX3_init_27 (Nat.le_of_ble_eq_true rfl) (Nat.le_of_ble_eq_true rfl) rfl rfl (Nat.le_of_ble_eq_true rfl) rfl ?_
  refine l_aload_n dX3_init_30 rfl rfl ?_
  refine l_iconst dX3_init_31 ?_
  refine l_newaI (n := 30) (N := 2) ac_I dX3_init_32 rfl ((tw_r_ne (show (30 : Nat) ≠ 23 by decide)).trans (hρ 30 (by decide))) (fun j _ => (hσ 30 (by decide) (by decide) j).trans (tw_ini0 (by decide))) rfl (Nat.le_of_ble_eq_true rfl) (Nat.le_of_ble_eq_true rfl) (Nat.le_of_ble_eq_true rfl) ⟨(Nat.le_of_ble_eq_true rfl), (Nat.le_of_ble_eq_true rfl)⟩ ?_
  refine l_put (fs' := [vR 24, vR 28, vR 29, vR 30, vI 0, vI 0, vI 0]) fl_X3_25 ff_X3_3 rfl dX3_init_34 (Nat.le_of_ble_eq_true rfl) (Nat.le_of_ble_eq_true rfl) rfl rfl (Nat.le_of_ble_eq_true rfl) rfl ?_
  refine l_aload_n dX3_init_37 rfl rfl ?_
  refine l_iconst dX3_init_38 ?_
  refine l_put (fs' := [vR 24, vR 28, vR 29, vR 30, vI 0, vI 0, vI 0]) fl_X3_28 ff_X3_4 rfl dX3_init_39 (Nat.le_of_ble_eq_true rfl) (Nat.le_of_ble_eq_true rfl) rfl rfl (Nat.le_of_ble_eq_true rfl) rfl ?_
  refine l_aload_n dX3_init_42 rfl rfl ?_
  refine l_iconst dX3_init_43 ?_
  refine l_put (fs' := [vR 24, vR 28, vR 29, vR 30, vI 0, vI 0, vI 0]) fl_X3_32 ff_X3_5 rfl dX3_init_44 (Nat.le_of_ble_eq_true rfl) (Nat.le_of_ble_eq_true rfl) rfl rfl (Nat.le_of_ble_eq_true rfl) rfl ?_
  refine l_aload_n dX3_init_47 rfl rfl ?_
  refine l_iconst dX3_init_48 ?_
  refine l_put (fs' := [vR 24, vR 28, vR 29, vR 30, vI 0, vI 0, vI 0]) fl_X3_35 ff_X3_6 rfl dX3_init_49 (Nat.le_of_ble_eq_true rfl) (Nat.le_of_ble_eq_true rfl) rfl rfl (Nat.le_of_ble_eq_true rfl) rfl ?_
  refine l_fin (hρ 23 (by decide)) ((tw_e_cg (fun j => hσ 23 (by decide) (by decide) j)).trans rfl) ?_
  exact l_vret dX3_init_52 rfl rfl (Nat.le_of_ble_eq_true rfl) (Nat.le_of_ble_eq_true rfl) rfl
set_option maxHeartbeats 4000000 in
set_option maxRecDepth 100000 in
theorem kk_32 {G : tw_G} (σ : tw_M) (ρ : tw_R) (hσ : ∀ k, 32 ≤ k → k < 36 → ∀ j, σ k j = tw_ini k j) (hρ : ∀ k, 32 ≤ k → ρ k = none) : tw_CC G yX7_init cX7_init 1 1 32 36 30 [] σ ρ (.inr (7, dfX7.map (tw_v G))) (fun τ => σ = τ) := by
  refine tw_metC [(0, vR 32)] (by decide +kernel) rfl rfl (Nat.le_of_ble_eq_true rfl) ?_
  refine l_aload_n dX7_init_0 rfl rfl ?_
  refine l_objInit oi_X7_3 dX7_init_1 ⟨(Nat.le_of_ble_eq_true rfl), (Nat.le_of_ble_eq_true rfl)⟩ rfl ?_
  refine l_aload_n dX7_init_4 rfl rfl ?_
  refine l_iconst dX7_init_5 ?_
  refine l_put (fs' := [vI 0, vV .null, vV .null, vV .null]) fl_X7_9 ff_X7_0 rfl dX7_init_6 (Nat.le_of_ble_eq_true rfl) (Nat.le_of_ble_eq_true rfl) rfl rfl (Nat.le_of_ble_eq_true rfl) rfl ?_
  refine l_aload_n dX7_init_9 rfl rfl ?_
  refine l_bipush dX7_init_10 rfl ?_
  refine l_newaI (n := 33) (N := 10) ac_I dX7_init_12 rfl ((tw_r_ne (show (33 : Nat) ≠ 32 by decide)).trans (hρ 33 (by decide))) (fun j _ => (hσ 33 (by decide) (by decide) j).trans (tw_ini0 (by decide))) rfl (Nat.le_of_ble_eq_true rfl) (Nat.le_of_ble_eq_true rfl) (Nat.le_of_ble_eq_true rfl) ⟨(Nat.le_of_ble_eq_true rfl), (Nat.le_of_ble_eq_true rfl)⟩ ?_
  refine l_put (fs' := [vI 0, vR 33, vV .null, vV .null]) fl_X7_15 ff_X7_1 rfl dX7_init_14 (Nat.le_of_ble_eq_true rfl) (Nat.le_of_ble_eq_true rfl) rfl rfl (Nat.le_of_ble_eq_true rfl) rfl ?_
  refine l_aload_n dX7_init_17 rfl rfl ?_
  refine l_bipush dX7_init_18 rfl ?_
  refine l_newaI (n := 34) (N := 10) ac_I dX7_init_20 rfl ((tw_r_ne (show (34 : Nat) ≠ 32 by decide)).trans (hρ 34 (by decide))) (fun j _ => (hσ 34 (by decide) (by decide) j).trans (tw_ini0 (by decide))) rfl (Nat.le_of_ble_eq_true rfl) (Nat.le_of_ble_eq_true rfl) (Nat.le_of_ble_eq_true rfl) ⟨(Nat.le_of_ble_eq_true rfl), (Nat.le_of_ble_eq_true rfl)⟩ ?_
  refine l_put (fs' := [vI 0, vR 33, vR 34, vV .null]) fl_X7_19 ff_X7_2 rfl dX7_init_22 (Nat.le_of_ble_eq_true rfl) (Nat.le_of_ble_eq_true rfl) rfl rfl (Nat.le_of_ble_eq_true rfl) rfl ?_
  refine l_aload_n dX7_init_25 rfl rfl ?_
  refine l_bipush dX7_init_26 rfl ?_
  refine l_newaI (n := 35) (N := 10) ac_I dX7_init_28 rfl ((tw_r_ne (show (35 : Nat) ≠ 32 by decide)).trans (hρ 35 (by decide))) (fun j _ => (hσ 35 (by decide) (by decide) j).trans (tw_ini0 (by decide))) rfl (Nat.le_of_ble_eq_true rfl) (Nat.le_of_ble_eq_true rfl) (Nat.le_of_ble_eq_true rfl) ⟨(Nat.le_of_ble_eq_true rfl), (Nat.le_of_ble_eq_true rfl)⟩ ?_
  refine l_put (fs' := [vI 0, vR 33, vR 34, vR 35]) fl_X7_22 ff_X7_3 rfl dX7_init_30 (Nat.le_of_ble_eq_true rfl) (Nat.le_of_ble_eq_true rfl) rfl rfl (Nat.le_of_ble_eq_true rfl) rfl ?_
  refine l_fin (hρ 32 (by decide)) ((tw_e_cg (fun j => hσ 32 (by decide) (by decide) j)).trans rfl) ?_
  exact l_vret dX7_init_33 rfl rfl (Nat.le_of_ble_eq_true rfl) (Nat.le_of_ble_eq_true rfl) rfl
set_option maxHeartbeats 4000000 in
set_option maxRecDepth 100000 in
theorem kk_31 {G : tw_G} (σ : tw_M) (ρ : tw_R) (hσ : ∀ k, 31 ≤ k → k < 39 → ∀ j, σ k j = tw_ini k j) (hρ : ∀ k, 31 ≤ k → ρ k = none) : tw_CC G yX3_init cX3_init 1 2 31 39 49 [] σ ρ (.inr (3, dfX3.map (tw_v G))) (fun τ => σ = τ) := by
  refine tw_metC [(0, vR 31)] (by decide +kernel) rfl rfl (Nat.le_of_ble_eq_true rfl) ?_
  refine l_aload_n dX3_init_0 rfl rfl ?_
  refine l_objInit oi_X3_3 dX3_init_1 ⟨(Nat.le_of_ble_eq_true rfl), (Nat.le_of_ble_eq_true rfl)⟩ rfl ?_
  refine l_aload_n dX3_init_4 rfl rfl ?_
  refine l_new cn_X3_9 dX3_init_5 (Nat.le_of_ble_eq_true rfl) (Nat.le_of_ble_eq_true rfl) ⟨(Nat.le_of_ble_eq_true rfl), (Nat.le_of_ble_eq_true rfl)⟩ ?_
  refine l_dup dX3_init_8 rfl ?_
  refine l_callI (kk_32 (G := G) σ (tw_ro G ρ 31 3 [vV .null, vV .null, vV .null, vV .null, vI 0, vI 0, vI 0]) (fun k h1 h2 j => hσ k (by omega) (by omega) j) (fun k hk => (tw_r_ne (show k ≠ 31 by omega)).trans (hρ k (by omega)))) ci_X3_11 rfl dX3_init_9 ⟨(Nat.le_of_ble_eq_true rfl), (Nat.le_of_ble_eq_true rfl)⟩ ⟨(Nat.le_of_ble_eq_true rfl), (Nat.le_of_ble_eq_true rfl)⟩ (Nat.le_of_ble_eq_true rfl) (Nat.le_of_ble_eq_true rfl) (Nat.le_of_ble_eq_true rfl) rfl (Nat.le_of_ble_eq_true rfl) rfl (fun τ32 hτ32 => ?_)
  subst hτ32
  refine l_put (fs' := [vR 32, vV .null, vV .null, vV .null, vI 0, vI 0, vI 0]) fl_X3_12 ff_X3_0 rfl dX3_init_12 (Nat.le_of_ble_eq_true rfl) (Nat.le_of_ble_eq_true rfl) rfl rfl (Nat.le_of_ble_eq_true rfl) rfl ?_
  refine l_aload_n dX3_init_15 rfl rfl ?_
  refine l_bipush dX3_init_16 rfl ?_
  refine l_newaI (n := 36) (N := 11) ac_I dX3_init_18 rfl ((tw_r_ne (show (36 : Nat) ≠ 31 by decide)).trans (hρ 36 (by decide))) (fun j _ => (hσ 36 (by decide) (by decide) j).trans (tw_ini0 (by decide))) rfl (Nat.le_of_ble_eq_true rfl) (Nat.le_of_ble_eq_true rfl) (Nat.le_of_ble_eq_true rfl) ⟨(Nat.le_of_ble_eq_true rfl), (Nat.le_of_ble_eq_true rfl)⟩ ?_
  refine l_put (fs' := [vR 32, vR 36, vV .null, vV .null, vI 0, vI 0, vI 0]) fl_X3_18 ff_X3_1 rfl dX3_init_20 (Nat.le_of_ble_eq_true rfl) (Nat.le_of_ble_eq_true rfl) rfl rfl (Nat.le_of_ble_eq_true rfl) rfl ?_
  refine l_aload_n dX3_init_23 rfl rfl ?_
  refine l_iconst dX3_init_24 ?_
  refine l_newaI (n := 37) (N := 2) ac_I dX3_init_25 rfl ((tw_r_ne (show (37 : Nat) ≠ 31 by decide)).trans (hρ 37 (by decide))) (fun j _ => (hσ 37 (by decide) (by decide) j).trans (tw_ini0 (by decide))) rfl (Nat.le_of_ble_eq_true rfl) (Nat.le_of_ble_eq_true rfl) (Nat.le_of_ble_eq_true rfl) ⟨(Nat.le_of_ble_eq_true rfl), (Nat.le_of_ble_eq_true rfl)⟩ ?_
  refine l_put (fs' := [vR 32, vR 36, vR 37, vV .null, vI 0, vI 0, vI 0]) fl_X3_22 ff_X3_2 rfl dX3_init_27 (Nat.le_of_ble_eq_true rfl) (Nat.le_of_ble_eq_true rfl) rfl rfl (Nat.le_of_ble_eq_true rfl) rfl ?_
  refine l_aload_n dX3_init_30 rfl rfl ?_
  refine l_iconst dX3_init_31 ?_
  refine l_newaI (n := 38) (N := 2) ac_I dX3_init_32 rfl ((tw_r_ne (show (38 : Nat) ≠ 31 by decide)).trans (hρ 38 (by decide))) (fun j _ => (hσ 38 (by decide) (by decide) j).trans (tw_ini0 (by decide))) rfl (Nat.le_of_ble_eq_true rfl) (Nat.le_of_ble_eq_true rfl) (Nat.le_of_ble_eq_true rfl) ⟨(Nat.le_of_ble_eq_true rfl), (Nat.le_of_ble_eq_true rfl)⟩ ?_
  refine l_put (fs' := [vR 32, vR 36, vR 37, vR 38, vI 0, vI 0, vI 0]) fl_X3_25 ff_X3_3 rfl dX3_init_34 (Nat.le_of_ble_eq_true rfl) (Nat.le_of_ble_eq_true rfl) rfl rfl (Nat.le_of_ble_eq_true rfl) rfl ?_
  refine l_aload_n dX3_init_37 rfl rfl ?_
  refine l_iconst dX3_init_38 ?_
  refine l_put (fs' := [vR 32, vR 36, vR 37, vR 38, vI 0, vI 0, vI 0]) fl_X3_28 ff_X3_4 rfl dX3_init_39 (Nat.le_of_ble_eq_true rfl) (Nat.le_of_ble_eq_true rfl) rfl rfl (Nat.le_of_ble_eq_true rfl) rfl ?_
  refine l_aload_n dX3_init_42 rfl rfl ?_
  refine l_iconst dX3_init_43 ?_
  refine l_put (fs' := [vR 32, vR 36, vR 37, vR 38, vI 0, vI 0, vI 0]) fl_X3_32 ff_X3_5 rfl dX3_init_44 (Nat.le_of_ble_eq_true rfl) (Nat.le_of_ble_eq_true rfl) rfl rfl (Nat.le_of_ble_eq_true rfl) rfl ?_
  refine l_aload_n dX3_init_47 rfl rfl ?_
  refine l_iconst dX3_init_48 ?_
  refine l_put (fs' := [vR 32, vR 36, vR 37, vR 38, vI 0, vI 0, vI 0]) fl_X3_35 ff_X3_6 rfl dX3_init_49 (Nat.le_of_ble_eq_true rfl) (Nat.le_of_ble_eq_true rfl) rfl rfl (Nat.le_of_ble_eq_true rfl) rfl ?_
  refine l_fin (hρ 31 (by decide)) ((tw_e_cg (fun j => hσ 31 (by decide) (by decide) j)).trans rfl) ?_
  exact l_vret dX3_init_52 rfl rfl (Nat.le_of_ble_eq_true rfl) (Nat.le_of_ble_eq_true rfl) rfl
set_option maxHeartbeats 4000000 in
set_option maxRecDepth 100000 in
theorem kk_40 {G : tw_G} (σ : tw_M) (ρ : tw_R) (hσ : ∀ k, 40 ≤ k → k < 44 → ∀ j, σ k j = tw_ini k j) (hρ : ∀ k, 40 ≤ k → ρ k = none) : tw_CC G yX7_init cX7_init 1 1 40 44 30 [] σ ρ (.inr (7, dfX7.map (tw_v G))) (fun τ => σ = τ) := by
  refine tw_metC [(0, vR 40)] (by decide +kernel) rfl rfl (Nat.le_of_ble_eq_true rfl) ?_
  refine l_aload_n dX7_init_0 rfl rfl ?_
  refine l_objInit oi_X7_3 dX7_init_1 ⟨(Nat.le_of_ble_eq_true rfl), (Nat.le_of_ble_eq_true rfl)⟩ rfl ?_
  refine l_aload_n dX7_init_4 rfl rfl ?_
  refine l_iconst dX7_init_5 ?_
  refine l_put (fs' := [vI 0, vV .null, vV .null, vV .null]) fl_X7_9 ff_X7_0 rfl dX7_init_6 (Nat.le_of_ble_eq_true rfl) (Nat.le_of_ble_eq_true rfl) rfl rfl (Nat.le_of_ble_eq_true rfl) rfl ?_
  refine l_aload_n dX7_init_9 rfl rfl ?_
  refine l_bipush dX7_init_10 rfl ?_
  refine l_newaI (n := 41) (N := 10) ac_I dX7_init_12 rfl ((tw_r_ne (show (41 : Nat) ≠ 40 by decide)).trans (hρ 41 (by decide))) (fun j _ => (hσ 41 (by decide) (by decide) j).trans (tw_ini0 (by decide))) rfl (Nat.le_of_ble_eq_true rfl) (Nat.le_of_ble_eq_true rfl) (Nat.le_of_ble_eq_true rfl) ⟨(Nat.le_of_ble_eq_true rfl), (Nat.le_of_ble_eq_true rfl)⟩ ?_
  refine l_put (fs' := [vI 0, vR 41, vV .null, vV .null]) fl_X7_15 ff_X7_1 rfl dX7_init_14 (Nat.le_of_ble_eq_true rfl) (Nat.le_of_ble_eq_true rfl) rfl rfl (Nat.le_of_ble_eq_true rfl) rfl ?_
  refine l_aload_n dX7_init_17 rfl rfl ?_
  refine l_bipush dX7_init_18 rfl ?_
  refine l_newaI (n := 42) (N := 10) ac_I dX7_init_20 rfl ((tw_r_ne (show (42 : Nat) ≠ 40 by decide)).trans (hρ 42 (by decide))) (fun j _ => (hσ 42 (by decide) (by decide) j).trans (tw_ini0 (by decide))) rfl (Nat.le_of_ble_eq_true rfl) (Nat.le_of_ble_eq_true rfl) (Nat.le_of_ble_eq_true rfl) ⟨(Nat.le_of_ble_eq_true rfl), (Nat.le_of_ble_eq_true rfl)⟩ ?_
  refine l_put (fs' := [vI 0, vR 41, vR 42, vV .null]) fl_X7_19 ff_X7_2 rfl dX7_init_22 (Nat.le_of_ble_eq_true rfl) (Nat.le_of_ble_eq_true rfl) rfl rfl (Nat.le_of_ble_eq_true rfl) rfl ?_
  refine l_aload_n dX7_init_25 rfl rfl ?_
  refine l_bipush dX7_init_26 rfl ?_
  refine l_newaI (n := 43) (N := 10) ac_I dX7_init_28 rfl ((tw_r_ne (show (43 : Nat) ≠ 40 by decide)).trans (hρ 43 (by decide))) (fun j _ => (hσ 43 (by decide) (by decide) j).trans (tw_ini0 (by decide))) rfl (Nat.le_of_ble_eq_true rfl) (Nat.le_of_ble_eq_true rfl) (Nat.le_of_ble_eq_true rfl) ⟨(Nat.le_of_ble_eq_true rfl), (Nat.le_of_ble_eq_true rfl)⟩ ?_
  refine l_put (fs' := [vI 0, vR 41, vR 42, vR 43]) fl_X7_22 ff_X7_3 rfl dX7_init_30 (Nat.le_of_ble_eq_true rfl) (Nat.le_of_ble_eq_true rfl) rfl rfl (Nat.le_of_ble_eq_true rfl) rfl ?_
  refine l_fin (hρ 40 (by decide)) ((tw_e_cg (fun j => hσ 40 (by decide) (by decide) j)).trans rfl) ?_
  exact l_vret dX7_init_33 rfl rfl (Nat.le_of_ble_eq_true rfl) (Nat.le_of_ble_eq_true rfl) rfl
set_option maxHeartbeats 4000000 in
set_option maxRecDepth 100000 in
theorem kk_39 {G : tw_G} (σ : tw_M) (ρ : tw_R) (hσ : ∀ k, 39 ≤ k → k < 47 → ∀ j, σ k j = tw_ini k j) (hρ : ∀ k, 39 ≤ k → ρ k = none) : tw_CC G yX3_init cX3_init 1 2 39 47 49 [] σ ρ (.inr (3, dfX3.map (tw_v G))) (fun τ => σ = τ) := by
  refine tw_metC [(0, vR 39)] (by decide +kernel) rfl rfl (Nat.le_of_ble_eq_true rfl) ?_
  refine l_aload_n dX3_init_0 rfl rfl ?_
  refine l_objInit oi_X3_3 dX3_init_1 ⟨(Nat.le_of_ble_eq_true rfl), (Nat.le_of_ble_eq_true rfl)⟩ rfl ?_
  refine l_aload_n dX3_init_4 rfl rfl ?_
  refine l_new cn_X3_9 dX3_init_5 (Nat.le_of_ble_eq_true rfl) (Nat.le_of_ble_eq_true rfl) ⟨(Nat.le_of_ble_eq_true rfl), (Nat.le_of_ble_eq_true rfl)⟩ ?_
  refine l_dup dX3_init_8 rfl ?_
  refine l_callI (kk_40 (G := G) σ (tw_ro G ρ 39 3 [vV .null, vV .null, vV .null, vV .null, vI 0, vI 0, vI 0]) (fun k h1 h2 j => hσ k (by omega) (by omega) j) (fun k hk => (tw_r_ne (show k ≠ 39 by omega)).trans (hρ k (by omega)))) ci_X3_11 rfl dX3_init_9 ⟨(Nat.le_of_ble_eq_true rfl), (Nat.le_of_ble_eq_true rfl)⟩ ⟨(Nat.le_of_ble_eq_true rfl), (Nat.le_of_ble_eq_true rfl)⟩ (Nat.le_of_ble_eq_true rfl) (Nat.le_of_ble_eq_true rfl) (Nat.le_of_ble_eq_true rfl) rfl (Nat.le_of_ble_eq_true rfl) rfl (fun τ40 hτ40 => ?_)
  subst hτ40
  refine l_put (fs' := [vR 40, vV .null, vV .null, vV .null, vI 0, vI 0, vI 0]) fl_X3_12 ff_X3_0 rfl dX3_init_12 (Nat.le_of_ble_eq_true rfl) (Nat.le_of_ble_eq_true rfl) rfl rfl (Nat.le_of_ble_eq_true rfl) rfl ?_
  refine l_aload_n dX3_init_15 rfl rfl ?_
  refine l_bipush dX3_init_16 rfl ?_
  refine l_newaI (n := 44) (N := 11) ac_I dX3_init_18 rfl ((tw_r_ne (show (44 : Nat) ≠ 39 by decide)).trans (hρ 44 (by decide))) (fun j _ => (hσ 44 (by decide) (by decide) j).trans (tw_ini0 (by decide))) rfl (Nat.le_of_ble_eq_true rfl) (Nat.le_of_ble_eq_true rfl) (Nat.le_of_ble_eq_true rfl) ⟨(Nat.le_of_ble_eq_true rfl), (Nat.le_of_ble_eq_true rfl)⟩ ?_
  refine l_put (fs' := [vR 40, vR 44, vV .null, vV .null, vI 0, vI 0, vI 0]) fl_X3_18 ff_X3_1 rfl dX3_init_20 (Nat.le_of_ble_eq_true rfl) (Nat.le_of_ble_eq_true rfl) rfl rfl (Nat.le_of_ble_eq_true rfl) rfl ?_
  refine l_aload_n dX3_init_23 rfl rfl ?_
  refine l_iconst dX3_init_24 ?_
  refine l_newaI (n := 45) (N := 2) ac_I dX3_init_25 rfl ((tw_r_ne (show (45 : Nat) ≠ 39 by decide)).trans (hρ 45 (by decide))) (fun j _ => (hσ 45 (by decide) (by decide) j).trans (tw_ini0 (by decide))) rfl (Nat.le_of_ble_eq_true rfl) (Nat.le_of_ble_eq_true rfl) (Nat.le_of_ble_eq_true rfl) ⟨(Nat.le_of_ble_eq_true rfl), (Nat.le_of_ble_eq_true rfl)⟩ ?_
  refine l_put (fs' := [vR 40, vR 44, vR 45, vV .null, vI 0, vI 0, vI 0]) fl_X3_22 ff_X3_2 rfl dX3_init_27 (Nat.le_of_ble_eq_true rfl) (Nat.le_of_ble_eq_true rfl) rfl rfl (Nat.le_of_ble_eq_true rfl) rfl ?_
  refine l_aload_n dX3_init_30 rfl rfl ?_
  refine l_iconst dX3_init_31 ?_
  refine l_newaI (n := 46) (N := 2) ac_I dX3_init_32 rfl ((tw_r_ne (show (46 : Nat) ≠ 39 by decide)).trans (hρ 46 (by decide))) (fun j _ => (hσ 46 (by decide) (by decide) j).trans (tw_ini0 (by decide))) rfl (Nat.le_of_ble_eq_true rfl) (Nat.le_of_ble_eq_true rfl) (Nat.le_of_ble_eq_true rfl) ⟨(Nat.le_of_ble_eq_true rfl), (Nat.le_of_ble_eq_true rfl)⟩ ?_
  refine l_put (fs' := [vR 40, vR 44, vR 45, vR 46, vI 0, vI 0, vI 0]) fl_X3_25 ff_X3_3 rfl dX3_init_34 (Nat.le_of_ble_eq_true rfl) (Nat.le_of_ble_eq_true rfl) rfl rfl (Nat.le_of_ble_eq_true rfl) rfl ?_
  refine l_aload_n dX3_init_37 rfl rfl ?_
  refine l_iconst dX3_init_38 ?_
  refine l_put (fs' := [vR 40, vR 44, vR 45, vR 46, vI 0, vI 0, vI 0]) fl_X3_28 ff_X3_4 rfl dX3_init_39 (Nat.le_of_ble_eq_true rfl) (Nat.le_of_ble_eq_true rfl) rfl rfl (Nat.le_of_ble_eq_true rfl) rfl ?_
  refine l_aload_n dX3_init_42 rfl rfl ?_
  refine l_iconst dX3_init_43 ?_
  refine l_put (fs' := [vR 40, vR 44, vR 45, vR 46, vI 0, vI 0, vI 0]) fl_X3_32 ff_X3_5 rfl dX3_init_44 (Nat.le_of_ble_eq_true rfl) (Nat.le_of_ble_eq_true rfl) rfl rfl (Nat.le_of_ble_eq_true rfl) rfl ?_
  refine l_aload_n dX3_init_47 rfl rfl ?_
  refine l_iconst dX3_init_48 ?_
  refine l_put (fs' := [vR 40, vR 44, vR 45, vR 46, vI 0, vI 0, vI 0]) fl_X3_35 ff_X3_6 rfl dX3_init_49 (Nat.le_of_ble_eq_true rfl) (Nat.le_of_ble_eq_true rfl) rfl rfl (Nat.le_of_ble_eq_true rfl) rfl ?_
  refine l_fin (hρ 39 (by decide)) ((tw_e_cg (fun j => hσ 39 (by decide) (by decide) j)).trans rfl) ?_
  exact l_vret dX3_init_52 rfl rfl (Nat.le_of_ble_eq_true rfl) (Nat.le_of_ble_eq_true rfl) rfl
set_option maxHeartbeats 4000000 in
set_option maxRecDepth 100000 in
theorem kk_48 {G : tw_G} (σ : tw_M) (ρ : tw_R) (hσ : ∀ k, 48 ≤ k → k < 52 → ∀ j, σ k j = tw_ini k j) (hρ : ∀ k, 48 ≤ k → ρ k = none) : tw_CC G yX7_init cX7_init 1 1 48 52 30 [] σ ρ (.inr (7, dfX7.map (tw_v G))) (fun τ => σ = τ) := by
  refine tw_metC [(0, vR 48)] (by decide +kernel) rfl rfl (Nat.le_of_ble_eq_true rfl) ?_
  refine l_aload_n dX7_init_0 rfl rfl ?_
  refine l_objInit oi_X7_3 dX7_init_1 ⟨(Nat.le_of_ble_eq_true rfl), (Nat.le_of_ble_eq_true rfl)⟩ rfl ?_
  refine l_aload_n dX7_init_4 rfl rfl ?_
  refine l_iconst dX7_init_5 ?_
  refine l_put (fs' := [vI 0, vV .null, vV .null, vV .null]) fl_X7_9 ff_X7_0 rfl dX7_init_6 (Nat.le_of_ble_eq_true rfl) (Nat.le_of_ble_eq_true rfl) rfl rfl (Nat.le_of_ble_eq_true rfl) rfl ?_
  refine l_aload_n dX7_init_9 rfl rfl ?_
  refine l_bipush dX7_init_10 rfl ?_
  refine l_newaI (n := 49) (N := 10) ac_I dX7_init_12 rfl ((tw_r_ne (show (49 : Nat) ≠ 48 by decide)).trans (hρ 49 (by decide))) (fun j _ => (hσ 49 (by decide) (by decide) j).trans (tw_ini0 (by decide))) rfl (Nat.le_of_ble_eq_true rfl) (Nat.le_of_ble_eq_true rfl) (Nat.le_of_ble_eq_true rfl) ⟨(Nat.le_of_ble_eq_true rfl), (Nat.le_of_ble_eq_true rfl)⟩ ?_
  refine l_put (fs' := [vI 0, vR 49, vV .null, vV .null]) fl_X7_15 ff_X7_1 rfl dX7_init_14 (Nat.le_of_ble_eq_true rfl) (Nat.le_of_ble_eq_true rfl) rfl rfl (Nat.le_of_ble_eq_true rfl) rfl ?_
  refine l_aload_n dX7_init_17 rfl rfl ?_
  refine l_bipush dX7_init_18 rfl ?_
  refine l_newaI (n := 50) (N := 10) ac_I dX7_init_20 rfl ((tw_r_ne (show (50 : Nat) ≠ 48 by decide)).trans (hρ 50 (by decide))) (fun j _ => (hσ 50 (by decide) (by decide) j).trans (tw_ini0 (by decide))) rfl (Nat.le_of_ble_eq_true rfl) (Nat.le_of_ble_eq_true rfl) (Nat.le_of_ble_eq_true rfl) ⟨(Nat.le_of_ble_eq_true rfl), (Nat.le_of_ble_eq_true rfl)⟩ ?_
  refine l_put (fs' := [vI 0, vR 49, vR 50, vV .null]) fl_X7_19 ff_X7_2 rfl dX7_init_22 (Nat.le_of_ble_eq_true rfl) (Nat.le_of_ble_eq_true rfl) rfl rfl (Nat.le_of_ble_eq_true rfl) rfl ?_
  refine l_aload_n dX7_init_25 rfl rfl ?_
  refine l_bipush dX7_init_26 rfl ?_
  refine l_newaI (n := 51) (N := 10) ac_I dX7_init_28 rfl ((tw_r_ne (show (51 : Nat) ≠ 48 by decide)).trans (hρ 51 (by decide))) (fun j _ => (hσ 51 (by decide) (by decide) j).trans (tw_ini0 (by decide))) rfl (Nat.le_of_ble_eq_true rfl) (Nat.le_of_ble_eq_true rfl) (Nat.le_of_ble_eq_true rfl) ⟨(Nat.le_of_ble_eq_true rfl), (Nat.le_of_ble_eq_true rfl)⟩ ?_
  refine l_put (fs' := [vI 0, vR 49, vR 50, vR 51]) fl_X7_22 ff_X7_3 rfl dX7_init_30 (Nat.le_of_ble_eq_true rfl) (Nat.le_of_ble_eq_true rfl) rfl rfl (Nat.le_of_ble_eq_true rfl) rfl ?_
  refine l_fin (hρ 48 (by decide)) ((tw_e_cg (fun j => hσ 48 (by decide) (by decide) j)).trans rfl) ?_
  exact l_vret dX7_init_33 rfl rfl (Nat.le_of_ble_eq_true rfl) (Nat.le_of_ble_eq_true rfl) rfl
set_option maxHeartbeats 4000000 in
set_option maxRecDepth 100000 in
theorem kk_47 {G : tw_G} (σ : tw_M) (ρ : tw_R) (hσ : ∀ k, 47 ≤ k → k < 55 → ∀ j, σ k j = tw_ini k j) (hρ : ∀ k, 47 ≤ k → ρ k = none) : tw_CC G yX3_init cX3_init 1 2 47 55 49 [] σ ρ (.inr (3, dfX3.map (tw_v G))) (fun τ => σ = τ) := by
  refine tw_metC [(0, vR 47)] (by decide +kernel) rfl rfl (Nat.le_of_ble_eq_true rfl) ?_
  refine l_aload_n dX3_init_0 rfl rfl ?_
  refine l_objInit oi_X3_3 dX3_init_1 ⟨(Nat.le_of_ble_eq_true rfl), (Nat.le_of_ble_eq_true rfl)⟩ rfl ?_
  refine l_aload_n dX3_init_4 rfl rfl ?_
  refine l_new cn_X3_9 dX3_init_5 (Nat.le_of_ble_eq_true rfl) (Nat.le_of_ble_eq_true rfl) ⟨(Nat.le_of_ble_eq_true rfl), (Nat.le_of_ble_eq_true rfl)⟩ ?_
  refine l_dup dX3_init_8 rfl ?_
  refine l_callI (kk_48 (G := G) σ (tw_ro G ρ 47 3 [vV .null, vV .null, vV .null, vV .null, vI 0, vI 0, vI 0]) (fun k h1 h2 j => hσ k (by omega) (by omega) j) (fun k hk => (tw_r_ne (show k ≠ 47 by omega)).trans (hρ k (by omega)))) ci_X3_11 rfl dX3_init_9 ⟨(Nat.le_of_ble_eq_true rfl), (Nat.le_of_ble_eq_true rfl)⟩ ⟨(Nat.le_of_ble_eq_true rfl), (Nat.le_of_ble_eq_true rfl)⟩ (Nat.le_of_ble_eq_true rfl) (Nat.le_of_ble_eq_true rfl) (Nat.le_of_ble_eq_true rfl) rfl (Nat.le_of_ble_eq_true rfl) rfl (fun τ48 hτ48 => ?_)
  subst hτ48
  refine l_put (fs' := [vR 48, vV .null, vV .null, vV .null, vI 0, vI 0, vI 0]) fl_X3_12 ff_X3_0 rfl dX3_init_12 (Nat.le_of_ble_eq_true rfl) (Nat.le_of_ble_eq_true rfl) rfl rfl (Nat.le_of_ble_eq_true rfl) rfl ?_
  refine l_aload_n dX3_init_15 rfl rfl ?_
  refine l_bipush dX3_init_16 rfl ?_
  refine l_newaI (n := 52) (N := 11) ac_I dX3_init_18 rfl ((tw_r_ne (show (52 : Nat) ≠ 47 by decide)).trans (hρ 52 (by decide))) (fun j _ => (hσ 52 (by decide) (by decide) j).trans (tw_ini0 (by decide))) rfl (Nat.le_of_ble_eq_true rfl) (Nat.le_of_ble_eq_true rfl) (Nat.le_of_ble_eq_true rfl) ⟨(Nat.le_of_ble_eq_true rfl), (Nat.le_of_ble_eq_true rfl)⟩ ?_
  refine l_put (fs' := [vR 48, vR 52, vV .null, vV .null, vI 0, vI 0, vI 0]) fl_X3_18 ff_X3_1 rfl dX3_init_20 (Nat.le_of_ble_eq_true rfl) (Nat.le_of_ble_eq_true rfl) rfl rfl (Nat.le_of_ble_eq_true rfl) rfl ?_
  refine l_aload_n dX3_init_23 rfl rfl ?_
  refine l_iconst dX3_init_24 ?_
  refine l_newaI (n := 53) (N := 2) ac_I dX3_init_25 rfl ((tw_r_ne (show (53 : Nat) ≠ 47 by decide)).trans (hρ 53 (by decide))) (fun j _ => (hσ 53 (by decide) (by decide) j).trans (tw_ini0 (by decide))) rfl (Nat.le_of_ble_eq_true rfl) (Nat.le_of_ble_eq_true rfl) (Nat.le_of_ble_eq_true rfl) ⟨(Nat.le_of_ble_eq_true rfl), (Nat.le_of_ble_eq_true rfl)⟩ ?_
  refine l_put (fs' := [vR 48, vR 52, vR 53, vV .null, vI 0, vI 0, vI 0]) fl_X3_22 ff_X3_2 rfl dX3_init_27 (Nat.le_of_ble_eq_true rfl) (Nat.le_of_ble_eq_true rfl) rfl rfl (Nat.le_of_ble_eq_true rfl) rfl ?_
  refine l_aload_n dX3_init_30 rfl rfl ?_
  refine l_iconst dX3_init_31 ?_
  refine l_newaI (n := 54) (N := 2) ac_I dX3_init_32 rfl ((tw_r_ne (show (54 : Nat) ≠ 47 by decide)).trans (hρ 54 (by decide))) (fun j _ => (hσ 54 (by decide) (by decide) j).trans (tw_ini0 (by decide))) rfl (Nat.le_of_ble_eq_true rfl) (Nat.le_of_ble_eq_true rfl) (Nat.le_of_ble_eq_true rfl) ⟨(Nat.le_of_ble_eq_true rfl), (Nat.le_of_ble_eq_true rfl)⟩ ?_
  refine l_put (fs' := [vR 48, vR 52, vR 53, vR 54, vI 0, vI 0, vI 0]) fl_X3_25 ff_X3_3 rfl dX3_init_34 (Nat.le_of_ble_eq_true rfl) (Nat.le_of_ble_eq_true rfl) rfl rfl (Nat.le_of_ble_eq_true rfl) rfl ?_
  refine l_aload_n dX3_init_37 rfl rfl ?_
  refine l_iconst dX3_init_38 ?_
  refine l_put (fs' := [vR 48, vR 52, vR 53, vR 54, vI 0, vI 0, vI 0]) fl_X3_28 ff_X3_4 rfl dX3_init_39 (Nat.le_of_ble_eq_true rfl) (Nat.le_of_ble_eq_true rfl) rfl rfl (Nat.le_of_ble_eq_true rfl) rfl ?_
  refine l_aload_n dX3_init_42 rfl rfl ?_
  refine l_iconst dX3_init_43 ?_
  refine l_put (fs' := [vR 48, vR 52, vR 53, vR 54, vI 0, vI 0, vI 0]) fl_X3_32 ff_X3_5 rfl dX3_init_44 (Nat.le_of_ble_eq_true rfl) (Nat.le_of_ble_eq_true rfl) rfl rfl (Nat.le_of_ble_eq_true rfl) rfl ?_
  refine l_aload_n dX3_init_47 rfl rfl ?_
  refine l_iconst dX3_init_48 ?_
  refine l_put (fs' := [vR 48, vR 52, vR 53, vR 54, vI 0, vI 0, vI 0]) fl_X3_35 ff_X3_6 rfl dX3_init_49 (Nat.le_of_ble_eq_true rfl) (Nat.le_of_ble_eq_true rfl) rfl rfl (Nat.le_of_ble_eq_true rfl) rfl ?_
  refine l_fin (hρ 47 (by decide)) ((tw_e_cg (fun j => hσ 47 (by decide) (by decide) j)).trans rfl) ?_
  exact l_vret dX3_init_52 rfl rfl (Nat.le_of_ble_eq_true rfl) (Nat.le_of_ble_eq_true rfl) rfl
set_option maxHeartbeats 4000000 in
set_option maxRecDepth 100000 in
theorem kk_55 {G : tw_G} (σ : tw_M) (ρ : tw_R) (hσ : ∀ k, 55 ≤ k → k < 56 → ∀ j, σ k j = tw_ini k j) (hρ : ∀ k, 55 ≤ k → ρ k = none) : tw_CC G yX2_init cX2_init 1 1 55 56 0 [] σ ρ (.inr (2, dfX2.map (tw_v G))) (fun τ => σ = τ) := by
  refine tw_metC [(0, vR 55)] (by decide +kernel) rfl rfl (Nat.le_of_ble_eq_true rfl) ?_
  refine l_aload_n dX2_init_0 rfl rfl ?_
  refine l_objInit oi_X2_3 dX2_init_1 ⟨(Nat.le_of_ble_eq_true rfl), (Nat.le_of_ble_eq_true rfl)⟩ rfl ?_
  refine l_aload_n dX2_init_4 rfl rfl ?_
  refine l_iconst dX2_init_5 ?_
  refine l_put (fs' := [vI 0, vI 0, vI 0, vI 0, vI 0, vI 0]) fl_X2_9 ff_X2_0 rfl dX2_init_6 (Nat.le_of_ble_eq_true rfl) (Nat.le_of_ble_eq_true rfl) rfl rfl (Nat.le_of_ble_eq_true rfl) rfl ?_
  refine l_aload_n dX2_init_9 rfl rfl ?_
  refine l_bipush dX2_init_10 rfl ?_
  refine l_put (fs' := [vI 0, vI (-4), vI 0, vI 0, vI 0, vI 0]) fl_X2_15 ff_X2_1 rfl dX2_init_12 (Nat.le_of_ble_eq_true rfl) (Nat.le_of_ble_eq_true rfl) rfl rfl (Nat.le_of_ble_eq_true rfl) rfl ?_
  refine l_aload_n dX2_init_15 rfl rfl ?_
  refine l_iconst dX2_init_16 ?_
  refine l_put (fs' := [vI 0, vI (-4), vI 0, vI 0, vI 0, vI 0]) fl_X2_18 ff_X2_2 rfl dX2_init_17 (Nat.le_of_ble_eq_true rfl) (Nat.le_of_ble_eq_true rfl) rfl rfl (Nat.le_of_ble_eq_true rfl) rfl ?_
  refine l_aload_n dX2_init_20 rfl rfl ?_
  refine l_iconst dX2_init_21 ?_
  refine l_put (fs' := [vI 0, vI (-4), vI 0, vI 0, vI 0, vI 0]) fl_X2_21 ff_X2_3 rfl dX2_init_22 (Nat.le_of_ble_eq_true rfl) (Nat.le_of_ble_eq_true rfl) rfl rfl (Nat.le_of_ble_eq_true rfl) rfl ?_
  refine l_aload_n dX2_init_25 rfl rfl ?_
  refine l_bipush dX2_init_26 rfl ?_
  refine l_put (fs' := [vI 0, vI (-4), vI 0, vI 0, vI (-4), vI 0]) fl_X2_24 ff_X2_4 rfl dX2_init_28 (Nat.le_of_ble_eq_true rfl) (Nat.le_of_ble_eq_true rfl) rfl rfl (Nat.le_of_ble_eq_true rfl) rfl ?_
  refine l_aload_n dX2_init_31 rfl rfl ?_
  refine l_iconst dX2_init_32 ?_
  refine l_put (fs' := [vI 0, vI (-4), vI 0, vI 0, vI (-4), vI 0]) fl_X2_27 ff_X2_5 rfl dX2_init_33 (Nat.le_of_ble_eq_true rfl) (Nat.le_of_ble_eq_true rfl) rfl rfl (Nat.le_of_ble_eq_true rfl) rfl ?_
  refine l_fin (hρ 55 (by decide)) ((tw_e_cg (fun j => hσ 55 (by decide) (by decide) j)).trans rfl) ?_
  exact l_vret dX2_init_36 rfl rfl (Nat.le_of_ble_eq_true rfl) (Nat.le_of_ble_eq_true rfl) rfl
set_option maxHeartbeats 4000000 in
set_option maxRecDepth 100000 in
theorem kk_57 {G : tw_G} (σ : tw_M) (ρ : tw_R) (hσ : ∀ k, 57 ≤ k → k < 58 → ∀ j, σ k j = tw_ini k j) (hρ : ∀ k, 57 ≤ k → ρ k = none) : tw_CC G yX2_init cX2_init 1 1 57 58 0 [] σ ρ (.inr (2, dfX2.map (tw_v G))) (fun τ => σ = τ) := by
  refine tw_metC [(0, vR 57)] (by decide +kernel) rfl rfl (Nat.le_of_ble_eq_true rfl) ?_
  refine l_aload_n dX2_init_0 rfl rfl ?_
  refine l_objInit oi_X2_3 dX2_init_1 ⟨(Nat.le_of_ble_eq_true rfl), (Nat.le_of_ble_eq_true rfl)⟩ rfl ?_
  refine l_aload_n dX2_init_4 rfl rfl ?_
  refine l_iconst dX2_init_5 ?_
  refine l_put (fs' := [vI 0, vI 0, vI 0, vI 0, vI 0, vI 0]) fl_X2_9 ff_X2_0 rfl dX2_init_6 (Nat.le_of_ble_eq_true rfl) (Nat.le_of_ble_eq_true rfl) rfl rfl (Nat.le_of_ble_eq_true rfl) rfl ?_
  refine l_aload_n dX2_init_9 rfl rfl ?_
  refine l_bipush dX2_init_10 rfl ?_
  refine l_put (fs' := [vI 0, vI (-4), vI 0, vI 0, vI 0, vI 0]) fl_X2_15 ff_X2_1 rfl dX2_init_12 (Nat.le_of_ble_eq_true rfl) (Nat.le_of_ble_eq_true rfl) rfl rfl (Nat.le_of_ble_eq_true rfl) rfl ?_
  refine l_aload_n dX2_init_15 rfl rfl ?_
  refine l_iconst dX2_init_16 ?_
  refine l_put (fs' := [vI 0, vI (-4), vI 0, vI 0, vI 0, vI 0]) fl_X2_18 ff_X2_2 rfl dX2_init_17 (Nat.le_of_ble_eq_true rfl) (Nat.le_of_ble_eq_true rfl) rfl rfl (Nat.le_of_ble_eq_true rfl) rfl ?_
  refine l_aload_n dX2_init_20 rfl rfl ?_
  refine l_iconst dX2_init_21 ?_
  refine l_put (fs' := [vI 0, vI (-4), vI 0, vI 0, vI 0, vI 0]) fl_X2_21 ff_X2_3 rfl dX2_init_22 (Nat.le_of_ble_eq_true rfl) (Nat.le_of_ble_eq_true rfl) rfl rfl (Nat.le_of_ble_eq_true rfl) rfl ?_
  refine l_aload_n dX2_init_25 rfl rfl ?_
  refine l_bipush dX2_init_26 rfl ?_
  refine l_put (fs' := [vI 0, vI (-4), vI 0, vI 0, vI (-4), vI 0]) fl_X2_24 ff_X2_4 rfl dX2_init_28 (Nat.le_of_ble_eq_true rfl) (Nat.le_of_ble_eq_true rfl) rfl rfl (Nat.le_of_ble_eq_true rfl) rfl ?_
  refine l_aload_n dX2_init_31 rfl rfl ?_
  refine l_iconst dX2_init_32 ?_
  refine l_put (fs' := [vI 0, vI (-4), vI 0, vI 0, vI (-4), vI 0]) fl_X2_27 ff_X2_5 rfl dX2_init_33 (Nat.le_of_ble_eq_true rfl) (Nat.le_of_ble_eq_true rfl) rfl rfl (Nat.le_of_ble_eq_true rfl) rfl ?_
  refine l_fin (hρ 57 (by decide)) ((tw_e_cg (fun j => hσ 57 (by decide) (by decide) j)).trans rfl) ?_
  exact l_vret dX2_init_36 rfl rfl (Nat.le_of_ble_eq_true rfl) (Nat.le_of_ble_eq_true rfl) rfl
set_option maxHeartbeats 4000000 in
set_option maxRecDepth 100000 in
theorem kk_56 {G : tw_G} (σ : tw_M) (ρ : tw_R) (hσ : ∀ k, 56 ≤ k → k < 58 → ∀ j, σ k j = tw_ini k j) (hρ : ∀ k, 56 ≤ k → ρ k = none) : tw_CC G yX4_init cX4_init 2 2 56 58 6 [vR 1] σ ρ (.inr (4, dfX4.map (tw_v G))) (fun τ => σ = τ) := by
  refine tw_metC [(0, vR 56), (1, vR 1)] (by decide +kernel) rfl rfl (Nat.le_of_ble_eq_true rfl) ?_
  refine l_aload_n dX4_init_0 rfl rfl ?_
  refine l_objInit oi_X4_1 dX4_init_1 ⟨(Nat.le_of_ble_eq_true rfl), (Nat.le_of_ble_eq_true rfl)⟩ rfl ?_
  refine l_aload_n dX4_init_4 rfl rfl ?_
  refine l_new cn_X4_7 dX4_init_5 (Nat.le_of_ble_eq_true rfl) (Nat.le_of_ble_eq_true rfl) ⟨(Nat.le_of_ble_eq_true rfl), (Nat.le_of_ble_eq_true rfl)⟩ ?_
  refine l_dup dX4_init_8 rfl ?_
  refine l_callI (kk_57 (G := G) σ (tw_ro G ρ 56 4 [vV .null, vV .null, vI 0, vI 0, vI 0, vI 0]) (fun k h1 h2 j => hσ k (by omega) (by omega) j) (fun k hk => (tw_r_ne (show k ≠ 56 by omega)).trans (hρ k (by omega)))) ci_X4_9 rfl dX4_init_9 ⟨(Nat.le_of_ble_eq_true rfl), (Nat.le_of_ble_eq_true rfl)⟩ ⟨(Nat.le_of_ble_eq_true rfl), (Nat.le_of_ble_eq_true rfl)⟩ (Nat.le_of_ble_eq_true rfl) (Nat.le_of_ble_eq_true rfl) (Nat.le_of_ble_eq_true rfl) rfl (Nat.le_of_ble_eq_true rfl) rfl (fun τ57 hτ57 => ?_)
  subst hτ57
  refine l_put (fs' := [vV .null, vR 57, vI 0, vI 0, vI 0, vI 0]) fl_X4_10 ff_X4_1 rfl dX4_init_12 (Nat.le_of_ble_eq_true rfl) (Nat.le_of_ble_eq_true rfl) rfl rfl (Nat.le_of_ble_eq_true rfl) rfl ?_
  refine l_aload_n dX4_init_15 rfl rfl ?_
  refine l_iconst dX4_init_16 ?_
  refine l_put (fs' := [vV .null, vR 57, vI 0, vI 0, vI 0, vI 0]) fl_X4_16 ff_X4_2 rfl dX4_init_17 (Nat.le_of_ble_eq_true rfl) (Nat.le_of_ble_eq_true rfl) rfl rfl (Nat.le_of_ble_eq_true rfl) rfl ?_
  refine l_aload_n dX4_init_20 rfl rfl ?_
  refine l_iconst dX4_init_21 ?_
  refine l_put (fs' := [vV .null, vR 57, vI 0, vI 0, vI 0, vI 0]) fl_X4_20 ff_X4_3 rfl dX4_init_22 (Nat.le_of_ble_eq_true rfl) (Nat.le_of_ble_eq_true rfl) rfl rfl (Nat.le_of_ble_eq_true rfl) rfl ?_
  refine l_aload_n dX4_init_25 rfl rfl ?_
  refine l_iconst dX4_init_26 ?_
  refine l_put (fs' := [vV .null, vR 57, vI 0, vI 0, vI 0, vI 0]) fl_X4_23 ff_X4_4 rfl dX4_init_27 (Nat.le_of_ble_eq_true rfl) (Nat.le_of_ble_eq_true rfl) rfl rfl (Nat.le_of_ble_eq_true rfl) rfl ?_
  refine l_aload_n dX4_init_30 rfl rfl ?_
  refine l_iconst dX4_init_31 ?_
  refine l_put (fs' := [vV .null, vR 57, vI 0, vI 0, vI 0, vI 0]) fl_X4_26 ff_X4_5 rfl dX4_init_32 (Nat.le_of_ble_eq_true rfl) (Nat.le_of_ble_eq_true rfl) rfl rfl (Nat.le_of_ble_eq_true rfl) rfl ?_
  refine l_aload_n dX4_init_35 rfl rfl ?_
  refine l_aload_n dX4_init_36 rfl rfl ?_
  refine l_put (fs' := [vR 1, vR 57, vI 0, vI 0, vI 0, vI 0]) fl_X4_29 ff_X4_0 rfl dX4_init_37 (Nat.le_of_ble_eq_true rfl) (Nat.le_of_ble_eq_true rfl) rfl rfl (Nat.le_of_ble_eq_true rfl) rfl ?_
  refine l_fin (hρ 56 (by decide)) ((tw_e_cg (fun j => hσ 56 (by decide) (by decide) j)).trans rfl) ?_
  exact l_vret dX4_init_40 rfl rfl (Nat.le_of_ble_eq_true rfl) (Nat.le_of_ble_eq_true rfl) rfl
set_option maxHeartbeats 4000000 in
set_option maxRecDepth 100000 in
theorem kk_59 {G : tw_G} (σ : tw_M) (ρ : tw_R) (hσ : ∀ k, 59 ≤ k → k < 60 → ∀ j, σ k j = tw_ini k j) (hρ : ∀ k, 59 ≤ k → ρ k = none) : tw_CC G yX2_init cX2_init 1 1 59 60 0 [] σ ρ (.inr (2, dfX2.map (tw_v G))) (fun τ => σ = τ) := by
  refine tw_metC [(0, vR 59)] (by decide +kernel) rfl rfl (Nat.le_of_ble_eq_true rfl) ?_
  refine l_aload_n dX2_init_0 rfl rfl ?_
  refine l_objInit oi_X2_3 dX2_init_1 ⟨(Nat.le_of_ble_eq_true rfl), (Nat.le_of_ble_eq_true rfl)⟩ rfl ?_
  refine l_aload_n dX2_init_4 rfl rfl ?_
  refine l_iconst dX2_init_5 ?_
  refine l_put (fs' := [vI 0, vI 0, vI 0, vI 0, vI 0, vI 0]) fl_X2_9 ff_X2_0 rfl dX2_init_6 (Nat.le_of_ble_eq_true rfl) (Nat.le_of_ble_eq_true rfl) rfl rfl (Nat.le_of_ble_eq_true rfl) rfl ?_
  refine l_aload_n dX2_init_9 rfl rfl ?_
  refine l_bipush dX2_init_10 rfl ?_
  refine l_put (fs' := [vI 0, vI (-4), vI 0, vI 0, vI 0, vI 0]) fl_X2_15 ff_X2_1 rfl dX2_init_12 (Nat.le_of_ble_eq_true rfl) (Nat.le_of_ble_eq_true rfl) rfl rfl (Nat.le_of_ble_eq_true rfl) rfl ?_
  refine l_aload_n dX2_init_15 rfl rfl ?_
  refine l_iconst dX2_init_16 ?_
  refine l_put (fs' := [vI 0, vI (-4), vI 0, vI 0, vI 0, vI 0]) fl_X2_18 ff_X2_2 rfl dX2_init_17 (Nat.le_of_ble_eq_true rfl) (Nat.le_of_ble_eq_true rfl) rfl rfl (Nat.le_of_ble_eq_true rfl) rfl ?_
  refine l_aload_n dX2_init_20 rfl rfl ?_
  refine l_iconst dX2_init_21 ?_
  refine l_put (fs' := [vI 0, vI (-4), vI 0, vI 0, vI 0, vI 0]) fl_X2_21 ff_X2_3 rfl dX2_init_22 (Nat.le_of_ble_eq_true rfl) (Nat.le_of_ble_eq_true rfl) rfl rfl (Nat.le_of_ble_eq_true rfl) rfl ?_
  refine l_aload_n dX2_init_25 rfl rfl ?_
  refine l_bipush dX2_init_26 rfl ?_
  refine l_put (fs' := [vI 0, vI (-4), vI 0, vI 0, vI (-4), vI 0]) fl_X2_24 ff_X2_4 rfl dX2_init_28 (Nat.le_of_ble_eq_true rfl) (Nat.le_of_ble_eq_true rfl) rfl rfl (Nat.le_of_ble_eq_true rfl) rfl ?_
  refine l_aload_n dX2_init_31 rfl rfl ?_
  refine l_iconst dX2_init_32 ?_
  refine l_put (fs' := [vI 0, vI (-4), vI 0, vI 0, vI (-4), vI 0]) fl_X2_27 ff_X2_5 rfl dX2_init_33 (Nat.le_of_ble_eq_true rfl) (Nat.le_of_ble_eq_true rfl) rfl rfl (Nat.le_of_ble_eq_true rfl) rfl ?_
  refine l_fin (hρ 59 (by decide)) ((tw_e_cg (fun j => hσ 59 (by decide) (by decide) j)).trans rfl) ?_
  exact l_vret dX2_init_36 rfl rfl (Nat.le_of_ble_eq_true rfl) (Nat.le_of_ble_eq_true rfl) rfl
set_option maxHeartbeats 4000000 in
set_option maxRecDepth 100000 in
theorem kk_58 {G : tw_G} (σ : tw_M) (ρ : tw_R) (hσ : ∀ k, 58 ≤ k → k < 60 → ∀ j, σ k j = tw_ini k j) (hρ : ∀ k, 58 ≤ k → ρ k = none) : tw_CC G yX1_init cX1_init 2 2 58 60 6 [vR 1] σ ρ (.inr (1, dfX1.map (tw_v G))) (fun τ => σ = τ) := by
  refine tw_metC [(0, vR 58), (1, vR 1)] (by decide +kernel) rfl rfl (Nat.le_of_ble_eq_true rfl) ?_
  refine l_aload_n dX1_init_0 rfl rfl ?_
  refine l_objInit oi_X1_3 dX1_init_1 ⟨(Nat.le_of_ble_eq_true rfl), (Nat.le_of_ble_eq_true rfl)⟩ rfl ?_
  refine l_aload_n dX1_init_4 rfl rfl ?_
  refine l_new cn_X1_9 dX1_init_5 (Nat.le_of_ble_eq_true rfl) (Nat.le_of_ble_eq_true rfl) ⟨(Nat.le_of_ble_eq_true rfl), (Nat.le_of_ble_eq_true rfl)⟩ ?_
  refine l_dup dX1_init_8 rfl ?_
  refine l_callI (kk_59 (G := G) σ (tw_ro G ρ 58 1 [vV .null, vV .null, vL 0, vL 0]) (fun k h1 h2 j => hσ k (by omega) (by omega) j) (fun k hk => (tw_r_ne (show k ≠ 58 by omega)).trans (hρ k (by omega)))) ci_X1_11 rfl dX1_init_9 ⟨(Nat.le_of_ble_eq_true rfl), (Nat.le_of_ble_eq_true rfl)⟩ ⟨(Nat.le_of_ble_eq_true rfl), (Nat.le_of_ble_eq_true rfl)⟩ (Nat.le_of_ble_eq_true rfl) (Nat.le_of_ble_eq_true rfl) (Nat.le_of_ble_eq_true rfl) rfl (Nat.le_of_ble_eq_true rfl) rfl (fun τ59 hτ59 => ?_)
  subst hτ59
  refine l_put (fs' := [vV .null, vR 59, vL 0, vL 0]) fl_X1_12 ff_X1_1 rfl dX1_init_12 (Nat.le_of_ble_eq_true rfl) (Nat.le_of_ble_eq_true rfl) rfl rfl (Nat.le_of_ble_eq_true rfl) rfl ?_
  refine l_aload_n dX1_init_15 rfl rfl ?_
  refine l_lconst (z := 0) dX1_init_16 rfl ?_
  refine l_put (fs' := [vV .null, vR 59, vL 0, vL 0]) fl_X1_18 ff_X1_2 rfl dX1_init_17 (Nat.le_of_ble_eq_true rfl) (Nat.le_of_ble_eq_true rfl) rfl rfl (Nat.le_of_ble_eq_true rfl) rfl ?_
  refine l_aload_n dX1_init_20 rfl rfl ?_
  refine l_lconst (z := 1) dX1_init_21 rfl ?_
  refine l_put (fs' := [vV .null, vR 59, vL 0, vL 1]) fl_X1_22 ff_X1_3 rfl dX1_init_22 (Nat.le_of_ble_eq_true rfl) (Nat.le_of_ble_eq_true rfl) rfl rfl (Nat.le_of_ble_eq_true rfl) rfl ?_
  refine l_aload_n dX1_init_25 rfl rfl ?_
  refine l_aload_n dX1_init_26 rfl rfl ?_
  refine l_put (fs' := [vR 1, vR 59, vL 0, vL 1]) fl_X1_25 ff_X1_0 rfl dX1_init_27 (Nat.le_of_ble_eq_true rfl) (Nat.le_of_ble_eq_true rfl) rfl rfl (Nat.le_of_ble_eq_true rfl) rfl ?_
  refine l_fin (hρ 58 (by decide)) ((tw_e_cg (fun j => hσ 58 (by decide) (by decide) j)).trans rfl) ?_
  exact l_vret dX1_init_30 rfl rfl (Nat.le_of_ble_eq_true rfl) (Nat.le_of_ble_eq_true rfl) rfl
set_option maxHeartbeats 4000000 in
set_option maxRecDepth 100000 in
theorem kk_61 {G : tw_G} (σ : tw_M) (ρ : tw_R) (hσ : ∀ k, 61 ≤ k → k < 65 → ∀ j, σ k j = tw_ini k j) (hρ : ∀ k, 61 ≤ k → ρ k = none) : tw_CC G yX7_init cX7_init 1 1 61 65 30 [] σ ρ (.inr (7, dfX7.map (tw_v G))) (fun τ => σ = τ) := by
  refine tw_metC [(0, vR 61)] (by decide +kernel) rfl rfl (Nat.le_of_ble_eq_true rfl) ?_
  refine l_aload_n dX7_init_0 rfl rfl ?_
  refine l_objInit oi_X7_3 dX7_init_1 ⟨(Nat.le_of_ble_eq_true rfl), (Nat.le_of_ble_eq_true rfl)⟩ rfl ?_
  refine l_aload_n dX7_init_4 rfl rfl ?_
  refine l_iconst dX7_init_5 ?_
  refine l_put (fs' := [vI 0, vV .null, vV .null, vV .null]) fl_X7_9 ff_X7_0 rfl dX7_init_6 (Nat.le_of_ble_eq_true rfl) (Nat.le_of_ble_eq_true rfl) rfl rfl (Nat.le_of_ble_eq_true rfl) rfl ?_
  refine l_aload_n dX7_init_9 rfl rfl ?_
  refine l_bipush dX7_init_10 rfl ?_
  refine l_newaI (n := 62) (N := 10) ac_I dX7_init_12 rfl ((tw_r_ne (show (62 : Nat) ≠ 61 by decide)).trans (hρ 62 (by decide))) (fun j _ => (hσ 62 (by decide) (by decide) j).trans (tw_ini0 (by decide))) rfl (Nat.le_of_ble_eq_true rfl) (Nat.le_of_ble_eq_true rfl) (Nat.le_of_ble_eq_true rfl) ⟨(Nat.le_of_ble_eq_true rfl), (Nat.le_of_ble_eq_true rfl)⟩ ?_
  refine l_put (fs' := [vI 0, vR 62, vV .null, vV .null]) fl_X7_15 ff_X7_1 rfl dX7_init_14 (Nat.le_of_ble_eq_true rfl) (Nat.le_of_ble_eq_true rfl) rfl rfl (Nat.le_of_ble_eq_true rfl) rfl ?_
  refine l_aload_n dX7_init_17 rfl rfl ?_
  refine l_bipush dX7_init_18 rfl ?_
  refine l_newaI (n := 63) (N := 10) ac_I dX7_init_20 rfl ((tw_r_ne (show (63 : Nat) ≠ 61 by decide)).trans (hρ 63 (by decide))) (fun j _ => (hσ 63 (by decide) (by decide) j).trans (tw_ini0 (by decide))) rfl (Nat.le_of_ble_eq_true rfl) (Nat.le_of_ble_eq_true rfl) (Nat.le_of_ble_eq_true rfl) ⟨(Nat.le_of_ble_eq_true rfl), (Nat.le_of_ble_eq_true rfl)⟩ ?_
  refine l_put (fs' := [vI 0, vR 62, vR 63, vV .null]) fl_X7_19 ff_X7_2 rfl dX7_init_22 (Nat.le_of_ble_eq_true rfl) (Nat.le_of_ble_eq_true rfl) rfl rfl (Nat.le_of_ble_eq_true rfl) rfl ?_
  refine l_aload_n dX7_init_25 rfl rfl ?_
  refine l_bipush dX7_init_26 rfl ?_
  refine l_newaI (n := 64) (N := 10) ac_I dX7_init_28 rfl ((tw_r_ne (show (64 : Nat) ≠ 61 by decide)).trans (hρ 64 (by decide))) (fun j _ => (hσ 64 (by decide) (by decide) j).trans (tw_ini0 (by decide))) rfl (Nat.le_of_ble_eq_true rfl) (Nat.le_of_ble_eq_true rfl) (Nat.le_of_ble_eq_true rfl) ⟨(Nat.le_of_ble_eq_true rfl), (Nat.le_of_ble_eq_true rfl)⟩ ?_
  refine l_put (fs' := [vI 0, vR 62, vR 63, vR 64]) fl_X7_22 ff_X7_3 rfl dX7_init_30 (Nat.le_of_ble_eq_true rfl) (Nat.le_of_ble_eq_true rfl) rfl rfl (Nat.le_of_ble_eq_true rfl) rfl ?_
  refine l_fin (hρ 61 (by decide)) ((tw_e_cg (fun j => hσ 61 (by decide) (by decide) j)).trans rfl) ?_
  exact l_vret dX7_init_33 rfl rfl (Nat.le_of_ble_eq_true rfl) (Nat.le_of_ble_eq_true rfl) rfl
set_option maxHeartbeats 4000000 in
set_option maxRecDepth 100000 in
theorem kk_67 {G : tw_G} (σ : tw_M) (ρ : tw_R) (hσ : ∀ k, 67 ≤ k → k < 71 → ∀ j, σ k j = tw_ini k j) (hρ : ∀ k, 67 ≤ k → ρ k = none) : tw_CC G yX7_init cX7_init 1 1 67 71 30 [] σ ρ (.inr (7, dfX7.map (tw_v G))) (fun τ => σ = τ) := by
  refine tw_metC [(0, vR 67)] (by decide +kernel) rfl rfl (Nat.le_of_ble_eq_true rfl) ?_
  refine l_aload_n dX7_init_0 rfl rfl ?_
  refine l_objInit oi_X7_3 dX7_init_1 ⟨(Nat.le_of_ble_eq_true rfl), (Nat.le_of_ble_eq_true rfl)⟩ rfl ?_
  refine l_aload_n dX7_init_4 rfl rfl ?_
  refine l_iconst dX7_init_5 ?_
  refine l_put (fs' := [vI 0, vV .null, vV .null, vV .null]) fl_X7_9 ff_X7_0 rfl dX7_init_6 (Nat.le_of_ble_eq_true rfl) (Nat.le_of_ble_eq_true rfl) rfl rfl (Nat.le_of_ble_eq_true rfl) rfl ?_
  refine l_aload_n dX7_init_9 rfl rfl ?_
  refine l_bipush dX7_init_10 rfl ?_
  refine l_newaI (n := 68) (N := 10) ac_I dX7_init_12 rfl ((tw_r_ne (show (68 : Nat) ≠ 67 by decide)).trans (hρ 68 (by decide))) (fun j _ => (hσ 68 (by decide) (by decide) j).trans (tw_ini0 (by decide))) rfl (Nat.le_of_ble_eq_true rfl) (Nat.le_of_ble_eq_true rfl) (Nat.le_of_ble_eq_true rfl) ⟨(Nat.le_of_ble_eq_true rfl), (Nat.le_of_ble_eq_true rfl)⟩ ?_
  refine l_put (fs' := [vI 0, vR 68, vV .null, vV .null]) fl_X7_15 ff_X7_1 rfl dX7_init_14 (Nat.le_of_ble_eq_true rfl) (Nat.le_of_ble_eq_true rfl) rfl rfl (Nat.le_of_ble_eq_true rfl) rfl ?_
  refine l_aload_n dX7_init_17 rfl rfl ?_
  refine l_bipush dX7_init_18 rfl ?_
  refine l_newaI (n := 69) (N := 10) ac_I dX7_init_20 rfl ((tw_r_ne (show (69 : Nat) ≠ 67 by decide)).trans (hρ 69 (by decide))) (fun j _ => (hσ 69 (by decide) (by decide) j).trans (tw_ini0 (by decide))) rfl (Nat.le_of_ble_eq_true rfl) (Nat.le_of_ble_eq_true rfl) (Nat.le_of_ble_eq_true rfl) ⟨(Nat.le_of_ble_eq_true rfl), (Nat.le_of_ble_eq_true rfl)⟩ ?_
  refine l_put (fs' := [vI 0, vR 68, vR 69, vV .null]) fl_X7_19 ff_X7_2 rfl dX7_init_22 (Nat.le_of_ble_eq_true rfl) (Nat.le_of_ble_eq_true rfl) rfl rfl (Nat.le_of_ble_eq_true rfl) rfl ?_
  refine l_aload_n dX7_init_25 rfl rfl ?_
  refine l_bipush dX7_init_26 rfl ?_
  refine l_newaI (n := 70) (N := 10) ac_I dX7_init_28 rfl ((tw_r_ne (show (70 : Nat) ≠ 67 by decide)).trans (hρ 70 (by decide))) (fun j _ => (hσ 70 (by decide) (by decide) j).trans (tw_ini0 (by decide))) rfl (Nat.le_of_ble_eq_true rfl) (Nat.le_of_ble_eq_true rfl) (Nat.le_of_ble_eq_true rfl) ⟨(Nat.le_of_ble_eq_true rfl), (Nat.le_of_ble_eq_true rfl)⟩ ?_
  refine l_put (fs' := [vI 0, vR 68, vR 69, vR 70]) fl_X7_22 ff_X7_3 rfl dX7_init_30 (Nat.le_of_ble_eq_true rfl) (Nat.le_of_ble_eq_true rfl) rfl rfl (Nat.le_of_ble_eq_true rfl) rfl ?_
  refine l_fin (hρ 67 (by decide)) ((tw_e_cg (fun j => hσ 67 (by decide) (by decide) j)).trans rfl) ?_
  exact l_vret dX7_init_33 rfl rfl (Nat.le_of_ble_eq_true rfl) (Nat.le_of_ble_eq_true rfl) rfl
set_option maxHeartbeats 4000000 in
set_option maxRecDepth 100000 in
theorem kk_60 {G : tw_G} (σ : tw_M) (ρ : tw_R) (hσ : ∀ k, 60 ≤ k → k < 71 → ∀ j, σ k j = tw_ini k j) (hρ : ∀ k, 60 ≤ k → ρ k = none) : tw_CC G yX5_init cX5_init 3 2 60 71 89 [vR 1, vR 56] σ ρ (.inr (5, dfX5.map (tw_v G))) (fun τ => σ = τ) := by
  refine tw_metC [(0, vR 60), (1, vR 1), (2, vR 56)] (by decide +kernel) rfl rfl (Nat.le_of_ble_eq_true rfl) ?_
  refine l_aload_n dX5_init_0 rfl rfl ?_
  refine l_objInit oi_X5_3 dX5_init_1 ⟨(Nat.le_of_ble_eq_true rfl), (Nat.le_of_ble_eq_true rfl)⟩ rfl ?_
  refine l_aload_n dX5_init_4 rfl rfl ?_
  refine l_new cn_X5_9 dX5_init_5 (Nat.le_of_ble_eq_true rfl) (Nat.le_of_ble_eq_true rfl) ⟨(Nat.le_of_ble_eq_true rfl), (Nat.le_of_ble_eq_true rfl)⟩ ?_
  refine l_dup dX5_init_8 rfl ?_
  refine l_callI (kk_61 (G := G) σ (tw_ro G ρ 60 5 [vV .null, vV .null, vV .null, vV .null, vV .null, vI 0, vI 0, vI 0, vI 0, vV .null, vI 0, vI 0, vI 0, vI 0]) (fun k h1 h2 j => hσ k (by omega) (by omega) j) (fun k hk => (tw_r_ne (show k ≠ 60 by omega)).trans (hρ k (by omega)))) ci_X5_11 rfl dX5_init_9 ⟨(Nat.le_of_ble_eq_true rfl), (Nat.le_of_ble_eq_true rfl)⟩ ⟨(Nat.le_of_ble_eq_true rfl), (Nat.le_of_ble_eq_true rfl)⟩ (Nat.le_of_ble_eq_true rfl) (Nat.le_of_ble_eq_true rfl) (Nat.le_of_ble_eq_true rfl) rfl (Nat.le_of_ble_eq_true rfl) rfl (fun τ61 hτ61 => ?_)
  subst hτ61
  refine l_put (fs' := [vV .null, vV .null, vR 61, vV .null, vV .null, vI 0, vI 0, vI 0, vI 0, vV .null, vI 0, vI 0, vI 0, vI 0]) fl_X5_12 ff_X5_2 rfl dX5_init_12 (Nat.le_of_ble_eq_true rfl) (Nat.le_of_ble_eq_true rfl) rfl rfl (Nat.le_of_ble_eq_true rfl) rfl ?_
  refine l_aload_n dX5_init_15 rfl rfl ?_
  refine l_bipush dX5_init_16 rfl ?_
  refine l_newaI (n := 65) (N := 11) ac_I dX5_init_18 rfl ((tw_r_ne (show (65 : Nat) ≠ 60 by decide)).trans (hρ 65 (by decide))) (fun j _ => (hσ 65 (by decide) (by decide) j).trans (tw_ini0 (by decide))) rfl (Nat.le_of_ble_eq_true rfl) (Nat.le_of_ble_eq_true rfl) (Nat.le_of_ble_eq_true rfl) ⟨(Nat.le_of_ble_eq_true rfl), (Nat.le_of_ble_eq_true rfl)⟩ ?_
  refine l_put (fs' := [vV .null, vV .null, vR 61, vR 65, vV .null, vI 0, vI 0, vI 0, vI 0, vV .null, vI 0, vI 0, vI 0, vI 0]) fl_X5_18 ff_X5_3 rfl dX5_init_20 (Nat.le_of_ble_eq_true rfl) (Nat.le_of_ble_eq_true rfl) rfl rfl (Nat.le_of_ble_eq_true rfl) rfl ?_
  refine l_aload_n dX5_init_23 rfl rfl ?_
  refine l_bipush dX5_init_24 rfl ?_
  refine l_newaI (n := 66) (N := 10) ac_I dX5_init_26 rfl ((tw_r_ne (show (66 : Nat) ≠ 60 by decide)).trans (hρ 66 (by decide))) (fun j _ => (hσ 66 (by decide) (by decide) j).trans (tw_ini0 (by decide))) rfl (Nat.le_of_ble_eq_true rfl) (Nat.le_of_ble_eq_true rfl) (Nat.le_of_ble_eq_true rfl) ⟨(Nat.le_of_ble_eq_true rfl), (Nat.le_of_ble_eq_true rfl)⟩ ?_
  refine l_put (fs' := [vV .null, vV .null, vR 61, vR 65, vR 66, vI 0, vI 0, vI 0, vI 0, vV .null, vI 0, vI 0, vI 0, vI 0]) fl_X5_22 ff_X5_4 rfl dX5_init_28 (Nat.le_of_ble_eq_true rfl) (Nat.le_of_ble_eq_true rfl) rfl rfl (Nat.le_of_ble_eq_true rfl) rfl ?_
  refine l_aload_n dX5_init_31 rfl rfl ?_
  refine l_iconst dX5_init_32 ?_
  refine l_put (fs' := [vV .null, vV .null, vR 61, vR 65, vR 66, vI 0, vI 0, vI 0, vI 0, vV .null, vI 0, vI 0, vI 0, vI 0]) fl_X5_25 ff_X5_5 rfl dX5_init_33 (Nat.le_of_ble_eq_true rfl) (Nat.le_of_ble_eq_true rfl) rfl rfl (Nat.le_of_ble_eq_true rfl) rfl ?_
  refine l_aload_n dX5_init_36 rfl rfl ?_
  refine l_iconst dX5_init_37 ?_
  refine l_put (fs' := [vV .null, vV .null, vR 61, vR 65, vR 66, vI 0, vI 0, vI 0, vI 0, vV .null, vI 0, vI 0, vI 0, vI 0]) fl_X5_29 ff_X5_6 rfl dX5_init_38 (Nat.le_of_ble_eq_true rfl) (Nat.le_of_ble_eq_true rfl) rfl rfl (Nat.le_of_ble_eq_true rfl) rfl ?_
  refine l_aload_n dX5_init_41 rfl rfl ?_
  refine l_iconst dX5_init_42 ?_
  refine l_put (fs' := [vV .null, vV .null, vR 61, vR 65, vR 66, vI 0, vI 0, vI 0, vI 0, vV .null, vI 0, vI 0, vI 0, vI 0]) fl_X5_33 ff_X5_7 rfl dX5_init_43 (Nat.le_of_ble_eq_true rfl) (Nat.le_of_ble_eq_true rfl) rfl rfl (Nat.le_of_ble_eq_true rfl) rfl ?_
  refine l_aload_n dX5_init_46 rfl rfl ?_
  refine l_iconst dX5_init_47 ?_
  refine l_put (fs' := [vV .null, vV .null, vR 61, vR 65, vR 66, vI 0, vI 0, vI 0, vI 0, vV .null, vI 0, vI 0, vI 0, vI 0]) fl_X5_36 ff_X5_8 rfl dX5_init_48 (Nat.le_of_ble_eq_true rfl) (Nat.le_of_ble_eq_true rfl) rfl rfl (Nat.le_of_ble_eq_true rfl) rfl ?_
  refine l_aload_n dX5_init_51 rfl rfl ?_
  refine l_new cn_X5_9 dX5_init_52 (Nat.le_of_ble_eq_true rfl) (Nat.le_of_ble_eq_true rfl) ⟨(Nat.le_of_ble_eq_true rfl), (Nat.le_of_ble_eq_true rfl)⟩ ?_
  refine l_dup dX5_init_55 rfl ?_
  refine l_callI (kk_67 (G := G) σ (tw_ro G ρ 60 5 [vV .null, vV .null, vR 61, vR 65, vR 66, vI 0, vI 0, vI 0, vI 0, vV .null, vI 0, vI 0, vI 0, vI 0]) (fun k h1 h2 j => hσ k (by omega) (by omega) j) (fun k hk => (tw_r_ne (show k ≠ 60 by omega)).trans (hρ k (by omega)))) ci_X5_11 rfl dX5_init_56 ⟨(Nat.le_of_ble_eq_true rfl), (Nat.le_of_ble_eq_true rfl)⟩ ⟨(Nat.le_of_ble_eq_true rfl), (Nat.le_of_ble_eq_true rfl)⟩ (Nat.le_of_ble_eq_true rfl) (Nat.le_of_ble_eq_true rfl) (Nat.le_of_ble_eq_true rfl) rfl (Nat.le_of_ble_eq_true rfl) rfl (fun τ67 hτ67 => ?_)
  subst hτ67
  refine l_put (fs' := [vV .null, vV .null, vR 61, vR 65, vR 66, vI 0, vI 0, vI 0, vI 0, vR 67, vI 0, vI 0, vI 0, vI 0]) fl_X5_39 ff_X5_9 rfl dX5_init_59 (Nat.le_of_ble_eq_true rfl) (Nat.le_of_ble_eq_true rfl) rfl rfl (Nat.le_of_ble_eq_true rfl) rfl ?_
  refine l_aload_n dX5_init_62 rfl rfl ?_
  refine l_iconst dX5_init_63 ?_
  refine l_put (fs' := [vV .null, vV .null, vR 61, vR 65, vR 66, vI 0, vI 0, vI 0, vI 0, vR 67, vI 0, vI 0, vI 0, vI 0]) fl_X5_42 ff_X5_10 rfl dX5_init_64 (Nat.le_of_ble_eq_true rfl) (Nat.le_of_ble_eq_true rfl) rfl rfl (Nat.le_of_ble_eq_true rfl) rfl ?_
  refine l_aload_n dX5_init_67 rfl rfl ?_
  refine l_iconst dX5_init_68 ?_
  refine l_put (fs' := [vV .null, vV .null, vR 61, vR 65, vR 66, vI 0, vI 0, vI 0, vI 0, vR 67, vI 0, vI 0, vI 0, vI 0]) fl_X5_45 ff_X5_11 rfl dX5_init_69 (Nat.le_of_ble_eq_true rfl) (Nat.le_of_ble_eq_true rfl) rfl rfl (Nat.le_of_ble_eq_true rfl) rfl ?_
  refine l_aload_n dX5_init_72 rfl rfl ?_
  refine l_iconst dX5_init_73 ?_
  refine l_put (fs' := [vV .null, vV .null, vR 61, vR 65, vR 66, vI 0, vI 0, vI 0, vI 0, vR 67, vI 0, vI 0, vI 0, vI 0]) fl_X5_48 ff_X5_12 rfl dX5_init_74 (Nat.le_of_ble_eq_true rfl) (Nat.le_of_ble_eq_true rfl) rfl rfl (Nat.le_of_ble_eq_true rfl) rfl ?_
  refine l_aload_n dX5_init_77 rfl rfl ?_
  refine l_iconst dX5_init_78 ?_
  refine l_put (fs' := [vV .null, vV .null, vR 61, vR 65, vR 66, vI 0, vI 0, vI 0, vI 0, vR 67, vI 0, vI 0, vI 0, vI 0]) fl_X5_51 ff_X5_13 rfl dX5_init_79 (Nat.le_of_ble_eq_true rfl) (Nat.le_of_ble_eq_true rfl) rfl rfl (Nat.le_of_ble_eq_true rfl) rfl ?_
  refine l_aload_n dX5_init_82 rfl rfl ?_
  refine l_aload_n dX5_init_83 rfl rfl ?_
  refine l_put (fs' := [vR 1, vV .null, vR 61, vR 65, vR 66, vI 0, vI 0, vI 0, vI 0, vR 67, vI 0, vI 0, vI 0, vI 0]) fl_X5_54 ff_X5_0 rfl dX5_init_84 (Nat.le_of_ble_eq_true rfl) (Nat.le_of_ble_eq_true rfl) rfl rfl (Nat.le_of_ble_eq_true rfl) rfl ?_
  refine l_aload_n dX5_init_87 rfl rfl ?_
  refine l_aload_n dX5_init_88 rfl rfl ?_
  refine l_put (fs' := [vR 1, vR 56, vR 61, vR 65, vR 66, vI 0, vI 0, vI 0, vI 0, vR 67, vI 0, vI 0, vI 0, vI 0]) fl_X5_58 ff_X5_1 rfl dX5_init_89 (Nat.le_of_ble_eq_true rfl) (Nat.le_of_ble_eq_true rfl) rfl rfl (Nat.le_of_ble_eq_true rfl) rfl ?_
  refine l_fin (hρ 60 (by decide)) ((tw_e_cg (fun j => hσ 60 (by decide) (by decide) j)).trans rfl) ?_
  exact l_vret dX5_init_92 rfl rfl (Nat.le_of_ble_eq_true rfl) (Nat.le_of_ble_eq_true rfl) rfl
set_option maxHeartbeats 4000000 in
set_option maxRecDepth 100000 in
theorem kk_71 {G : tw_G} (σ : tw_M) (ρ : tw_R) (hσ : ∀ k, 71 ≤ k → k < 76 → ∀ j, σ k j = tw_ini k j) (hρ : ∀ k, 71 ≤ k → ρ k = none) : tw_CC G yX6_init cX6_init 2 1 71 76 162 [vR 1] σ ρ (.inr (6, dfX6.map (tw_v G))) (fun τ => σ = τ) := by
  refine tw_metC [(0, vR 71), (1, vR 1)] (by decide +kernel) rfl rfl (Nat.le_of_ble_eq_true rfl) ?_
  refine l_aload_n dX6_init_0 rfl rfl ?_
  refine l_objInit oi_X6_3 dX6_init_1 ⟨(Nat.le_of_ble_eq_true rfl), (Nat.le_of_ble_eq_true rfl)⟩ rfl ?_
  refine l_aload_n dX6_init_4 rfl rfl ?_
  refine l_iconst dX6_init_5 ?_
  refine l_put (fs' := [vV .null, vI 0, vV .null, vV .null, vV .null, vV .null, vI 0, vI 0]) fl_X6_9 ff_X6_1 rfl dX6_init_6 (Nat.le_of_ble_eq_true rfl) (Nat.le_of_ble_eq_true rfl) rfl rfl (Nat.le_of_ble_eq_true rfl) rfl ?_
  refine l_aload_n dX6_init_9 rfl rfl ?_
  refine l_bipush dX6_init_10 rfl ?_
  refine l_newaI (n := 72) (N := 41) ac_I dX6_init_12 rfl ((tw_r_ne (show (72 : Nat) ≠ 71 by decide)).trans (hρ 72 (by decide))) (fun j _ => (hσ 72 (by decide) (by decide) j).trans (tw_ini0 (by decide))) rfl (Nat.le_of_ble_eq_true rfl) (Nat.le_of_ble_eq_true rfl) (Nat.le_of_ble_eq_true rfl) ⟨(Nat.le_of_ble_eq_true rfl), (Nat.le_of_ble_eq_true rfl)⟩ ?_
  refine l_put (fs' := [vV .null, vI 0, vR 72, vV .null, vV .null, vV .null, vI 0, vI 0]) fl_X6_15 ff_X6_2 rfl dX6_init_14 (Nat.le_of_ble_eq_true rfl) (Nat.le_of_ble_eq_true rfl) rfl rfl (Nat.le_of_ble_eq_true rfl) rfl ?_
  refine l_aload_n dX6_init_17 rfl rfl ?_
  refine l_bipush dX6_init_18 rfl ?_
  refine l_newaI (n := 73) (N := 41) ac_I dX6_init_20 rfl ((tw_r_ne (show (73 : Nat) ≠ 71 by decide)).trans (hρ 73 (by decide))) (fun j _ => (hσ 73 (by decide) (by decide) j).trans (tw_ini0 (by decide))) rfl (Nat.le_of_ble_eq_true rfl) (Nat.le_of_ble_eq_true rfl) (Nat.le_of_ble_eq_true rfl) ⟨(Nat.le_of_ble_eq_true rfl), (Nat.le_of_ble_eq_true rfl)⟩ ?_
  refine l_put (fs' := [vV .null, vI 0, vR 72, vR 73, vV .null, vV .null, vI 0, vI 0]) fl_X6_19 ff_X6_3 rfl dX6_init_22 (Nat.le_of_ble_eq_true rfl) (Nat.le_of_ble_eq_true rfl) rfl rfl (Nat.le_of_ble_eq_true rfl) rfl ?_
  refine l_aload_n dX6_init_25 rfl rfl ?_
  refine l_bipush dX6_init_26 rfl ?_
  refine l_newaI (n := 74) (N := 40) ac_I dX6_init_28 rfl ((tw_r_ne (show (74 : Nat) ≠ 71 by decide)).trans (hρ 74 (by decide))) (fun j _ => (hσ 74 (by decide) (by decide) j).trans (tw_ini0 (by decide))) rfl (Nat.le_of_ble_eq_true rfl) (Nat.le_of_ble_eq_true rfl) (Nat.le_of_ble_eq_true rfl) ⟨(Nat.le_of_ble_eq_true rfl), (Nat.le_of_ble_eq_true rfl)⟩ ?_
  refine l_put (fs' := [vV .null, vI 0, vR 72, vR 73, vR 74, vV .null, vI 0, vI 0]) fl_X6_22 ff_X6_4 rfl dX6_init_30 (Nat.le_of_ble_eq_true rfl) (Nat.le_of_ble_eq_true rfl) rfl rfl (Nat.le_of_ble_eq_true rfl) rfl ?_
  refine l_aload_n dX6_init_33 rfl rfl ?_
  refine l_bipush dX6_init_34 rfl ?_
  refine l_newaI (n := 75) (N := 40) ac_I dX6_init_36 rfl ((tw_r_ne (show (75 : Nat) ≠ 71 by decide)).trans (hρ 75 (by decide))) (fun j _ => (hσ 75 (by decide) (by decide) j).trans (tw_ini0 (by decide))) rfl (Nat.le_of_ble_eq_true rfl) (Nat.le_of_ble_eq_true rfl) (Nat.le_of_ble_eq_true rfl) ⟨(Nat.le_of_ble_eq_true rfl), (Nat.le_of_ble_eq_true rfl)⟩ ?_
  refine l_put (fs' := [vV .null, vI 0, vR 72, vR 73, vR 74, vR 75, vI 0, vI 0]) fl_X6_25 ff_X6_5 rfl dX6_init_38 (Nat.le_of_ble_eq_true rfl) (Nat.le_of_ble_eq_true rfl) rfl rfl (Nat.le_of_ble_eq_true rfl) rfl ?_
  refine l_aload_n dX6_init_41 rfl rfl ?_
  refine l_iconst dX6_init_42 ?_
  refine l_put (fs' := [vV .null, vI 0, vR 72, vR 73, vR 74, vR 75, vI 0, vI 0]) fl_X6_28 ff_X6_6 rfl dX6_init_43 (Nat.le_of_ble_eq_true rfl) (Nat.le_of_ble_eq_true rfl) rfl rfl (Nat.le_of_ble_eq_true rfl) rfl ?_
  refine l_aload_n dX6_init_46 rfl rfl ?_
  refine l_iconst dX6_init_47 ?_
  refine l_put (fs' := [vV .null, vI 0, vR 72, vR 73, vR 74, vR 75, vI 0, vI 0]) fl_X6_32 ff_X6_7 rfl dX6_init_48 (Nat.le_of_ble_eq_true rfl) (Nat.le_of_ble_eq_true rfl) rfl rfl (Nat.le_of_ble_eq_true rfl) rfl ?_
  refine l_aload_n dX6_init_51 rfl rfl ?_
  refine l_aload_n dX6_init_52 rfl rfl ?_
  refine l_put (fs' := [vR 1, vI 0, vR 72, vR 73, vR 74, vR 75, vI 0, vI 0]) fl_X6_35 ff_X6_0 rfl dX6_init_53 (Nat.le_of_ble_eq_true rfl) (Nat.le_of_ble_eq_true rfl) rfl rfl (Nat.le_of_ble_eq_true rfl) rfl ?_
  refine l_fin (hρ 71 (by decide)) ((tw_e_cg (fun j => hσ 71 (by decide) (by decide) j)).trans rfl) ?_
  exact l_vret dX6_init_56 rfl rfl (Nat.le_of_ble_eq_true rfl) (Nat.le_of_ble_eq_true rfl) rfl
set_option maxHeartbeats 4000000 in
set_option maxRecDepth 100000 in
theorem kk_76 {G : tw_G} (σ : tw_M) (ρ : tw_R) (hσ : ∀ k, 76 ≤ k → k < 79 → ∀ j, σ k j = tw_ini k j) (hρ : ∀ k, 76 ≤ k → ρ k = none) : tw_CC G yX0_init cX0_init 2 1 76 79 81 [vR 1] σ ρ (.inr (0, dfX0.map (tw_v G))) (fun τ => σ = τ) := by
  refine tw_metC [(0, vR 76), (1, vR 1)] (by decide +kernel) rfl rfl (Nat.le_of_ble_eq_true rfl) ?_
  refine l_aload_n dX0_init_0 rfl rfl ?_
  refine l_objInit oi_X0_3 dX0_init_1 ⟨(Nat.le_of_ble_eq_true rfl), (Nat.le_of_ble_eq_true rfl)⟩ rfl ?_
  refine l_aload_n dX0_init_4 rfl rfl ?_
  refine l_iconst dX0_init_5 ?_
  refine l_put (fs' := [vV .null, vI 0, vV .null, vV .null, vI 0, vI 0]) fl_X0_9 ff_X0_1 rfl dX0_init_6 (Nat.le_of_ble_eq_true rfl) (Nat.le_of_ble_eq_true rfl) rfl rfl (Nat.le_of_ble_eq_true rfl) rfl ?_
  refine l_aload_n dX0_init_9 rfl rfl ?_
  refine l_bipush dX0_init_10 rfl ?_
  refine l_newaI (n := 77) (N := 41) ac_I dX0_init_12 rfl ((tw_r_ne (show (77 : Nat) ≠ 76 by decide)).trans (hρ 77 (by decide))) (fun j _ => (hσ 77 (by decide) (by decide) j).trans (tw_ini0 (by decide))) rfl (Nat.le_of_ble_eq_true rfl) (Nat.le_of_ble_eq_true rfl) (Nat.le_of_ble_eq_true rfl) ⟨(Nat.le_of_ble_eq_true rfl), (Nat.le_of_ble_eq_true rfl)⟩ ?_
  refine l_put (fs' := [vV .null, vI 0, vR 77, vV .null, vI 0, vI 0]) fl_X0_15 ff_X0_2 rfl dX0_init_14 (Nat.le_of_ble_eq_true rfl) (Nat.le_of_ble_eq_true rfl) rfl rfl (Nat.le_of_ble_eq_true rfl) rfl ?_
  refine l_aload_n dX0_init_17 rfl rfl ?_
  refine l_bipush dX0_init_18 rfl ?_
  refine l_newaI (n := 78) (N := 40) ac_I dX0_init_20 rfl ((tw_r_ne (show (78 : Nat) ≠ 76 by decide)).trans (hρ 78 (by decide))) (fun j _ => (hσ 78 (by decide) (by decide) j).trans (tw_ini0 (by decide))) rfl (Nat.le_of_ble_eq_true rfl) (Nat.le_of_ble_eq_true rfl) (Nat.le_of_ble_eq_true rfl) ⟨(Nat.le_of_ble_eq_true rfl), (Nat.le_of_ble_eq_true rfl)⟩ ?_
  refine l_put (fs' := [vV .null, vI 0, vR 77, vR 78, vI 0, vI 0]) fl_X0_19 ff_X0_3 rfl dX0_init_22 (Nat.le_of_ble_eq_true rfl) (Nat.le_of_ble_eq_true rfl) rfl rfl (Nat.le_of_ble_eq_true rfl) rfl ?_
  refine l_aload_n dX0_init_25 rfl rfl ?_
  refine l_iconst dX0_init_26 ?_
  refine l_put (fs' := [vV .null, vI 0, vR 77, vR 78, vI 0, vI 0]) fl_X0_22 ff_X0_4 rfl dX0_init_27 (Nat.le_of_ble_eq_true rfl) (Nat.le_of_ble_eq_true rfl) rfl rfl (Nat.le_of_ble_eq_true rfl) rfl ?_
  refine l_aload_n dX0_init_30 rfl rfl ?_
  refine l_iconst dX0_init_31 ?_
  refine l_put (fs' := [vV .null, vI 0, vR 77, vR 78, vI 0, vI 0]) fl_X0_26 ff_X0_5 rfl dX0_init_32 (Nat.le_of_ble_eq_true rfl) (Nat.le_of_ble_eq_true rfl) rfl rfl (Nat.le_of_ble_eq_true rfl) rfl ?_
  refine l_aload_n dX0_init_35 rfl rfl ?_
  refine l_aload_n dX0_init_36 rfl rfl ?_
  refine l_put (fs' := [vR 1, vI 0, vR 77, vR 78, vI 0, vI 0]) fl_X0_29 ff_X0_0 rfl dX0_init_37 (Nat.le_of_ble_eq_true rfl) (Nat.le_of_ble_eq_true rfl) rfl rfl (Nat.le_of_ble_eq_true rfl) rfl ?_
  refine l_fin (hρ 76 (by decide)) ((tw_e_cg (fun j => hσ 76 (by decide) (by decide) j)).trans rfl) ?_
  exact l_vret dX0_init_40 rfl rfl (Nat.le_of_ble_eq_true rfl) (Nat.le_of_ble_eq_true rfl) rfl
set_option maxHeartbeats 4000000 in
set_option maxRecDepth 100000 in
theorem kk_80 {G : tw_G} (σ : tw_M) (ρ : tw_R) (hσ : ∀ k, 80 ≤ k → k < 82 → ∀ j, σ k j = tw_ini k j) (hρ : ∀ k, 80 ≤ k → ρ k = none) : tw_CC G yX8_init cX8_init 1 1 80 82 40 [] σ ρ (.inr (8, dfX8.map (tw_v G))) (fun τ => σ = τ) := by
  refine tw_metC [(0, vR 80)] (by decide +kernel) rfl rfl (Nat.le_of_ble_eq_true rfl) ?_
  refine l_aload_n dX8_init_0 rfl rfl ?_
  refine l_objInit oi_X8_3 dX8_init_1 ⟨(Nat.le_of_ble_eq_true rfl), (Nat.le_of_ble_eq_true rfl)⟩ rfl ?_
  refine l_aload_n dX8_init_4 rfl rfl ?_
  refine l_bipush dX8_init_5 rfl ?_
  refine l_newaI (n := 81) (N := 40) ac_I dX8_init_7 rfl ((tw_r_ne (show (81 : Nat) ≠ 80 by decide)).trans (hρ 81 (by decide))) (fun j _ => (hσ 81 (by decide) (by decide) j).trans (tw_ini0 (by decide))) rfl (Nat.le_of_ble_eq_true rfl) (Nat.le_of_ble_eq_true rfl) (Nat.le_of_ble_eq_true rfl) ⟨(Nat.le_of_ble_eq_true rfl), (Nat.le_of_ble_eq_true rfl)⟩ ?_
  refine l_put (fs' := [vR 81, vI 0, vI 0, vI 0]) fl_X8_9 ff_X8_0 rfl dX8_init_9 (Nat.le_of_ble_eq_true rfl) (Nat.le_of_ble_eq_true rfl) rfl rfl (Nat.le_of_ble_eq_true rfl) rfl ?_
  refine l_aload_n dX8_init_12 rfl rfl ?_
  refine l_iconst dX8_init_13 ?_
  refine l_put (fs' := [vR 81, vI 0, vI 0, vI 0]) fl_X8_15 ff_X8_1 rfl dX8_init_14 (Nat.le_of_ble_eq_true rfl) (Nat.le_of_ble_eq_true rfl) rfl rfl (Nat.le_of_ble_eq_true rfl) rfl ?_
  refine l_aload_n dX8_init_17 rfl rfl ?_
  refine l_iconst dX8_init_18 ?_
  refine l_put (fs' := [vR 81, vI 0, vI 0, vI 0]) fl_X8_19 ff_X8_2 rfl dX8_init_19 (Nat.le_of_ble_eq_true rfl) (Nat.le_of_ble_eq_true rfl) rfl rfl (Nat.le_of_ble_eq_true rfl) rfl ?_
  refine l_aload_n dX8_init_22 rfl rfl ?_
  refine l_iconst dX8_init_23 ?_
  refine l_put (fs' := [vR 81, vI 0, vI 0, vI 0]) fl_X8_23 ff_X8_3 rfl dX8_init_24 (Nat.le_of_ble_eq_true rfl) (Nat.le_of_ble_eq_true rfl) rfl rfl (Nat.le_of_ble_eq_true rfl) rfl ?_
  refine l_fin (hρ 80 (by decide)) ((tw_e_cg (fun j => hσ 80 (by decide) (by decide) j)).trans rfl) ?_
  exact l_vret dX8_init_27 rfl rfl (Nat.le_of_ble_eq_true rfl) (Nat.le_of_ble_eq_true rfl) rfl
set_option maxHeartbeats 4000000 in
set_option maxRecDepth 100000 in
theorem kk_82 {G : tw_G} (σ : tw_M) (ρ : tw_R) (hσ : ∀ k, 82 ≤ k → k < 84 → ∀ j, σ k j = tw_ini k j) (hρ : ∀ k, 82 ≤ k → ρ k = none) : tw_CC G yX8_init cX8_init 1 1 82 84 40 [] σ ρ (.inr (8, dfX8.map (tw_v G))) (fun τ => σ = τ) := by
  refine tw_metC [(0, vR 82)] (by decide +kernel) rfl rfl (Nat.le_of_ble_eq_true rfl) ?_
  refine l_aload_n dX8_init_0 rfl rfl ?_
  refine l_objInit oi_X8_3 dX8_init_1 ⟨(Nat.le_of_ble_eq_true rfl), (Nat.le_of_ble_eq_true rfl)⟩ rfl ?_
  refine l_aload_n dX8_init_4 rfl rfl ?_
  refine l_bipush dX8_init_5 rfl ?_
  refine l_newaI (n := 83) (N := 40) ac_I dX8_init_7 rfl ((tw_r_ne (show (83 : Nat) ≠ 82 by decide)).trans (hρ 83 (by decide))) (fun j _ => (hσ 83 (by decide) (by decide) j).trans (tw_ini0 (by decide))) rfl (Nat.le_of_ble_eq_true rfl) (Nat.le_of_ble_eq_true rfl) (Nat.le_of_ble_eq_true rfl) ⟨(Nat.le_of_ble_eq_true rfl), (Nat.le_of_ble_eq_true rfl)⟩ ?_
  refine l_put (fs' := [vR 83, vI 0, vI 0, vI 0]) fl_X8_9 ff_X8_0 rfl dX8_init_9 (Nat.le_of_ble_eq_true rfl) (Nat.le_of_ble_eq_true rfl) rfl rfl (Nat.le_of_ble_eq_true rfl) rfl ?_
  refine l_aload_n dX8_init_12 rfl rfl ?_
  refine l_iconst dX8_init_13 ?_
  refine l_put (fs' := [vR 83, vI 0, vI 0, vI 0]) fl_X8_15 ff_X8_1 rfl dX8_init_14 (Nat.le_of_ble_eq_true rfl) (Nat.le_of_ble_eq_true rfl) rfl rfl (Nat.le_of_ble_eq_true rfl) rfl ?_
  refine l_aload_n dX8_init_17 rfl rfl ?_
  refine l_iconst dX8_init_18 ?_
  refine l_put (fs' := [vR 83, vI 0, vI 0, vI 0]) fl_X8_19 ff_X8_2 rfl dX8_init_19 (Nat.le_of_ble_eq_true rfl) (Nat.le_of_ble_eq_true rfl) rfl rfl (Nat.le_of_ble_eq_true rfl) rfl ?_
  refine l_aload_n dX8_init_22 rfl rfl ?_
  refine l_iconst dX8_init_23 ?_
  refine l_put (fs' := [vR 83, vI 0, vI 0, vI 0]) fl_X8_23 ff_X8_3 rfl dX8_init_24 (Nat.le_of_ble_eq_true rfl) (Nat.le_of_ble_eq_true rfl) rfl rfl (Nat.le_of_ble_eq_true rfl) rfl ?_
  refine l_fin (hρ 82 (by decide)) ((tw_e_cg (fun j => hσ 82 (by decide) (by decide) j)).trans rfl) ?_
  exact l_vret dX8_init_27 rfl rfl (Nat.le_of_ble_eq_true rfl) (Nat.le_of_ble_eq_true rfl) rfl
set_option maxHeartbeats 4000000 in
set_option maxRecDepth 100000 in
theorem kk_84 {G : tw_G} (σ : tw_M) (ρ : tw_R) (hσ : ∀ k, 84 ≤ k → k < 86 → ∀ j, σ k j = tw_ini k j) (hρ : ∀ k, 84 ≤ k → ρ k = none) : tw_CC G yX8_init cX8_init 1 1 84 86 40 [] σ ρ (.inr (8, dfX8.map (tw_v G))) (fun τ => σ = τ) := by
  refine tw_metC [(0, vR 84)] (by decide +kernel) rfl rfl (Nat.le_of_ble_eq_true rfl) ?_
  refine l_aload_n dX8_init_0 rfl rfl ?_
  refine l_objInit oi_X8_3 dX8_init_1 ⟨(Nat.le_of_ble_eq_true rfl), (Nat.le_of_ble_eq_true rfl)⟩ rfl ?_
  refine l_aload_n dX8_init_4 rfl rfl ?_
  refine l_bipush dX8_init_5 rfl ?_
  refine l_newaI (n := 85) (N := 40) ac_I dX8_init_7 rfl ((tw_r_ne (show (85 : Nat) ≠ 84 by decide)).trans (hρ 85 (by decide))) (fun j _ => (hσ 85 (by decide) (by decide) j).trans (tw_ini0 (by decide))) rfl (Nat.le_of_ble_eq_true rfl) (Nat.le_of_ble_eq_true rfl) (Nat.le_of_ble_eq_true rfl) ⟨(Nat.le_of_ble_eq_true rfl), (Nat.le_of_ble_eq_true rfl)⟩ ?_
  refine l_put (fs' := [vR 85, vI 0, vI 0, vI 0]) fl_X8_9 ff_X8_0 rfl dX8_init_9 (Nat.le_of_ble_eq_true rfl) (Nat.le_of_ble_eq_true rfl) rfl rfl (Nat.le_of_ble_eq_true rfl) rfl ?_
  refine l_aload_n dX8_init_12 rfl rfl ?_
  refine l_iconst dX8_init_13 ?_
  refine l_put (fs' := [vR 85, vI 0, vI 0, vI 0]) fl_X8_15 ff_X8_1 rfl dX8_init_14 (Nat.le_of_ble_eq_true rfl) (Nat.le_of_ble_eq_true rfl) rfl rfl (Nat.le_of_ble_eq_true rfl) rfl ?_
  refine l_aload_n dX8_init_17 rfl rfl ?_
  refine l_iconst dX8_init_18 ?_
  refine l_put (fs' := [vR 85, vI 0, vI 0, vI 0]) fl_X8_19 ff_X8_2 rfl dX8_init_19 (Nat.le_of_ble_eq_true rfl) (Nat.le_of_ble_eq_true rfl) rfl rfl (Nat.le_of_ble_eq_true rfl) rfl ?_
  refine l_aload_n dX8_init_22 rfl rfl ?_
  refine l_iconst dX8_init_23 ?_
  refine l_put (fs' := [vR 85, vI 0, vI 0, vI 0]) fl_X8_23 ff_X8_3 rfl dX8_init_24 (Nat.le_of_ble_eq_true rfl) (Nat.le_of_ble_eq_true rfl) rfl rfl (Nat.le_of_ble_eq_true rfl) rfl ?_
  refine l_fin (hρ 84 (by decide)) ((tw_e_cg (fun j => hσ 84 (by decide) (by decide) j)).trans rfl) ?_
  exact l_vret dX8_init_27 rfl rfl (Nat.le_of_ble_eq_true rfl) (Nat.le_of_ble_eq_true rfl) rfl
set_option maxHeartbeats 4000000 in
set_option maxRecDepth 100000 in
theorem kk_86 {G : tw_G} (σ : tw_M) (ρ : tw_R) (hσ : ∀ k, 86 ≤ k → k < 88 → ∀ j, σ k j = tw_ini k j) (hρ : ∀ k, 86 ≤ k → ρ k = none) : tw_CC G yX8_init cX8_init 1 1 86 88 40 [] σ ρ (.inr (8, dfX8.map (tw_v G))) (fun τ => σ = τ) := by
  refine tw_metC [(0, vR 86)] (by decide +kernel) rfl rfl (Nat.le_of_ble_eq_true rfl) ?_
  refine l_aload_n dX8_init_0 rfl rfl ?_
  refine l_objInit oi_X8_3 dX8_init_1 ⟨(Nat.le_of_ble_eq_true rfl), (Nat.le_of_ble_eq_true rfl)⟩ rfl ?_
  refine l_aload_n dX8_init_4 rfl rfl ?_
  refine l_bipush dX8_init_5 rfl ?_
  refine l_newaI (n := 87) (N := 40) ac_I dX8_init_7 rfl ((tw_r_ne (show (87 : Nat) ≠ 86 by decide)).trans (hρ 87 (by decide))) (fun j _ => (hσ 87 (by decide) (by decide) j).trans (tw_ini0 (by decide))) rfl (Nat.le_of_ble_eq_true rfl) (Nat.le_of_ble_eq_true rfl) (Nat.le_of_ble_eq_true rfl) ⟨(Nat.le_of_ble_eq_true rfl), (Nat.le_of_ble_eq_true rfl)⟩ ?_
  refine l_put (fs' := [vR 87, vI 0, vI 0, vI 0]) fl_X8_9 ff_X8_0 rfl dX8_init_9 (Nat.le_of_ble_eq_true rfl) (Nat.le_of_ble_eq_true rfl) rfl rfl (Nat.le_of_ble_eq_true rfl) rfl ?_
  refine l_aload_n dX8_init_12 rfl rfl ?_
  refine l_iconst dX8_init_13 ?_
  refine l_put (fs' := [vR 87, vI 0, vI 0, vI 0]) fl_X8_15 ff_X8_1 rfl dX8_init_14 (Nat.le_of_ble_eq_true rfl) (Nat.le_of_ble_eq_true rfl) rfl rfl (Nat.le_of_ble_eq_true rfl) rfl ?_
  refine l_aload_n dX8_init_17 rfl rfl ?_
  refine l_iconst dX8_init_18 ?_
  refine l_put (fs' := [vR 87, vI 0, vI 0, vI 0]) fl_X8_19 ff_X8_2 rfl dX8_init_19 (Nat.le_of_ble_eq_true rfl) (Nat.le_of_ble_eq_true rfl) rfl rfl (Nat.le_of_ble_eq_true rfl) rfl ?_
  refine l_aload_n dX8_init_22 rfl rfl ?_
  refine l_iconst dX8_init_23 ?_
  refine l_put (fs' := [vR 87, vI 0, vI 0, vI 0]) fl_X8_23 ff_X8_3 rfl dX8_init_24 (Nat.le_of_ble_eq_true rfl) (Nat.le_of_ble_eq_true rfl) rfl rfl (Nat.le_of_ble_eq_true rfl) rfl ?_
  refine l_fin (hρ 86 (by decide)) ((tw_e_cg (fun j => hσ 86 (by decide) (by decide) j)).trans rfl) ?_
  exact l_vret dX8_init_27 rfl rfl (Nat.le_of_ble_eq_true rfl) (Nat.le_of_ble_eq_true rfl) rfl
set_option maxHeartbeats 4000000 in
set_option maxRecDepth 100000 in
theorem kk_0 {G : tw_G} (σ : tw_M) (ρ : tw_R) (hσ : ∀ k, 0 ≤ k → k < 88 → ∀ j, σ k j = tw_ini k j) (hρ : ∀ k, 0 ≤ k → ρ k = none) (hI : tw_I0 σ) (h91 : Wb 91 91 σ 9) (hgt : tw_gt G) : tw_CC G yX11_init cX11_init 2 3 0 88 1806 [] σ ρ (.inr (11, dfX11.map (tw_v G))) (fun τ => tw_I τ ∧ tw_F (fun c j => (2 ≤ c ∧ c < 10) ∨ (15 ≤ c ∧ c < 23) ∨ (23 ≤ c ∧ c < 31)) σ τ ∧ τ 29 0 = 0 ∧ τ 30 0 = 0 ∧ τ 29 1 = 0 ∧ τ 30 1 = 0 ∧ WBG 1 τ ∧ τ 24 0 = 0 ∧ (∀ j : Nat, j < 11 → τ 28 j = 0) ∧ τ 23 4 = 18 ∧ τ 23 5 = 10) := by
  refine tw_metC [(0, vR 0)] (by decide +kernel) rfl rfl (Nat.le_of_ble_eq_true rfl) ?_
  refine l_aload_n dX11_init_0 rfl rfl ?_
  refine l_objInit oi_X11_1 dX11_init_1 ⟨(Nat.le_of_ble_eq_true rfl), (Nat.le_of_ble_eq_true rfl)⟩ rfl ?_
  refine l_aload_n dX11_init_4 rfl rfl ?_
  refine l_new cn_X11_7 dX11_init_5 (Nat.le_of_ble_eq_true rfl) (Nat.le_of_ble_eq_true rfl) ⟨(Nat.le_of_ble_eq_true rfl), (Nat.le_of_ble_eq_true rfl)⟩ ?_
  refine l_dup dX11_init_8 rfl ?_
  refine l_callI (kk_1 (G := G) σ (tw_ro G ρ 0 11 [vV .null, vV .null, vV .null, vV .null, vV .null, vV .null, vV .null, vV .null, vV .null, vV .null, vV .null, vV .null, vV .null, vI 0, vI 0]) (fun k h1 h2 j => hσ k (by omega) (by omega) j) (fun k hk => (tw_r_ne (show k ≠ 0 by omega)).trans (hρ k (by omega))) hI hgt) ci_X11_9 rfl dX11_init_9 ⟨(Nat.le_of_ble_eq_true rfl), (Nat.le_of_ble_eq_true rfl)⟩ ⟨(Nat.le_of_ble_eq_true rfl), (Nat.le_of_ble_eq_true rfl)⟩ (Nat.le_of_ble_eq_true rfl) (Nat.le_of_ble_eq_true rfl) (Nat.le_of_ble_eq_true rfl) rfl (Nat.le_of_ble_eq_true rfl) rfl (fun τ1 hτ1 => ?_)
  obtain ⟨hI1, hF1, hW1, hB1⟩ := hτ1
  refine l_put (fs' := [vR 1, vV .null, vV .null, vV .null, vV .null, vV .null, vV .null, vV .null, vV .null, vV .null, vV .null, vV .null, vV .null, vI 0, vI 0]) fl_X11_10 ff_X11_0 rfl dX11_init_12 (Nat.le_of_ble_eq_true rfl) (Nat.le_of_ble_eq_true rfl) rfl rfl (Nat.le_of_ble_eq_true rfl) rfl ?_
  refine l_aload_n dX11_init_15 rfl rfl ?_
  refine l_new cn_X11_16 dX11_init_16 (Nat.le_of_ble_eq_true rfl) (Nat.le_of_ble_eq_true rfl) ⟨(Nat.le_of_ble_eq_true rfl), (Nat.le_of_ble_eq_true rfl)⟩ ?_
  refine l_dup dX11_init_19 rfl ?_
  refine l_callI (kk_10 (G := G) τ1 (tw_ro G ρ 0 11 [vR 1, vV .null, vV .null, vV .null, vV .null, vV .null, vV .null, vV .null, vV .null, vV .null, vV .null, vV .null, vV .null, vI 0, vI 0]) (fun k h1 h2 j => (hF1 k j (by omega)).trans (hσ k (by omega) (by omega) j)) (fun k hk => (tw_r_ne (show k ≠ 0 by omega)).trans (hρ k (by omega))) hI1 hgt) ci_X11_18 rfl dX11_init_20 ⟨(Nat.le_of_ble_eq_true rfl), (Nat.le_of_ble_eq_true rfl)⟩ ⟨(Nat.le_of_ble_eq_true rfl), (Nat.le_of_ble_eq_true rfl)⟩ (Nat.le_of_ble_eq_true rfl) (Nat.le_of_ble_eq_true rfl) (Nat.le_of_ble_eq_true rfl) rfl (Nat.le_of_ble_eq_true rfl) rfl (fun τ10 hτ10 => ?_)
  obtain ⟨hI10, hF10, hW10, hB10⟩ := hτ10
  refine l_put (fs' := [vR 1, vR 10, vV .null, vV .null, vV .null, vV .null, vV .null, vV .null, vV .null, vV .null, vV .null, vV .null, vV .null, vI 0, vI 0]) fl_X11_19 ff_X11_1 rfl dX11_init_23 (Nat.le_of_ble_eq_true rfl) (Nat.le_of_ble_eq_true rfl) rfl rfl (Nat.le_of_ble_eq_true rfl) rfl ?_
  refine l_aload_n dX11_init_26 rfl rfl ?_
  refine l_new cn_X11_23 dX11_init_27 (Nat.le_of_ble_eq_true rfl) (Nat.le_of_ble_eq_true rfl) ⟨(Nat.le_of_ble_eq_true rfl), (Nat.le_of_ble_eq_true rfl)⟩ ?_
  refine l_dup dX11_init_30 rfl ?_
  refine l_callI (kk_23 (G := G) τ10 (tw_ro G ρ 0 11 [vR 1, vR 10, vV .null, vV .null, vV .null, vV .null, vV .null, vV .null, vV .null, vV .null, vV .null, vV .null, vV .null, vI 0, vI 0]) (fun k h1 h2 j => (hF10 k j (by omega)).trans ((hF1 k j (by omega)).trans (hσ k (by omega) (by omega) j))) (fun k hk => (tw_r_ne (show k ≠ 0 by omega)).trans (hρ k (by omega)))) ci_X11_25 rfl dX11_init_31 ⟨(Nat.le_of_ble_eq_true rfl), (Nat.le_of_ble_eq_true rfl)⟩ ⟨(Nat.le_of_ble_eq_true rfl), (Nat.le_of_ble_eq_true rfl)⟩ (Nat.le_of_ble_eq_true rfl) (Nat.le_of_ble_eq_true rfl) (Nat.le_of_ble_eq_true rfl) rfl (Nat.le_of_ble_eq_true rfl) rfl (fun τ23 hτ23 => ?_)
  subst hτ23
  refine l_put (fs' := [vR 1, vR 10, vR 23, vV .null, vV .null, vV .null, vV .null, vV .null, vV .null, vV .null, vV .null, vV .null, vV .null, vI 0, vI 0]) fl_X11_26 ff_X11_2 rfl dX11_init_34 (Nat.le_of_ble_eq_true rfl) (Nat.le_of_ble_eq_true rfl) rfl rfl (Nat.le_of_ble_eq_true rfl) rfl ?_
  refine l_aload_n dX11_init_37 rfl rfl ?_
  refine l_new cn_X11_23 dX11_init_38 (Nat.le_of_ble_eq_true rfl) (Nat.le_of_ble_eq_true rfl) ⟨(Nat.le_of_ble_eq_true rfl), (Nat.le_of_ble_eq_true rfl)⟩ ?_
  refine l_dup dX11_init_41 rfl ?_
  refine l_callI (kk_31 (G := G) τ10 (tw_ro G ρ 0 11 [vR 1, vR 10, vR 23, vV .null, vV .null, vV .null, vV .null, vV .null, vV .null, vV .null, vV .null, vV .null, vV .null, vI 0, vI 0]) (fun k h1 h2 j => (hF10 k j (by omega)).trans ((hF1 k j (by omega)).trans (hσ k (by omega) (by omega) j))) (fun k hk => (tw_r_ne (show k ≠ 0 by omega)).trans (hρ k (by omega)))) ci_X11_25 rfl dX11_init_42 ⟨(Nat.le_of_ble_eq_true rfl), (Nat.le_of_ble_eq_true rfl)⟩ ⟨(Nat.le_of_ble_eq_true rfl), (Nat.le_of_ble_eq_true rfl)⟩ (Nat.le_of_ble_eq_true rfl) (Nat.le_of_ble_eq_true rfl) (Nat.le_of_ble_eq_true rfl) rfl (Nat.le_of_ble_eq_true rfl) rfl (fun τ31 hτ31 => ?_)
  subst hτ31
  refine l_put (fs' := [vR 1, vR 10, vR 23, vR 31, vV .null, vV .null, vV .null, vV .null, vV .null, vV .null, vV .null, vV .null, vV .null, vI 0, vI 0]) fl_X11_30 ff_X11_3 rfl dX11_init_45 (Nat.le_of_ble_eq_true rfl) (Nat.le_of_ble_eq_true rfl) rfl rfl (Nat.le_of_ble_eq_true rfl) rfl ?_
  refine l_aload_n dX11_init_48 rfl rfl ?_
  refine l_new cn_X11_23 dX11_init_49 (Nat.le_of_ble_eq_true rfl) (Nat.le_of_ble_eq_true rfl) ⟨(Nat.le_of_ble_eq_true rfl), (Nat.le_of_ble_eq_true rfl)⟩ ?_
  refine l_dup dX11_init_52 rfl ?_
  refine l_callI (kk_39 (G := G) τ10 (tw_ro G ρ 0 11 [vR 1, vR 10, vR 23, vR 31, vV .null, vV .null, vV .null, vV .null, vV .null, vV .null, vV .null, vV .null, vV .null, vI 0, vI 0]) (fun k h1 h2 j => (hF10 k j (by omega)).trans ((hF1 k j (by omega)).trans (hσ k (by omega) (by omega) j))) (fun k hk => (tw_r_ne (show k ≠ 0 by omega)).trans (hρ k (by omega)))) ci_X11_25 rfl dX11_init_53 ⟨(Nat.le_of_ble_eq_true rfl), (Nat.le_of_ble_eq_true rfl)⟩ ⟨(Nat.le_of_ble_eq_true rfl), (Nat.le_of_ble_eq_true rfl)⟩ (Nat.le_of_ble_eq_true rfl) (Nat.le_of_ble_eq_true rfl) (Nat.le_of_ble_eq_true rfl) rfl (Nat.le_of_ble_eq_true rfl) rfl (fun τ39 hτ39 => ?_)
  subst hτ39
  refine l_put (fs' := [vR 1, vR 10, vR 23, vR 31, vR 39, vV .null, vV .null, vV .null, vV .null, vV .null, vV .null, vV .null, vV .null, vI 0, vI 0]) fl_X11_33 ff_X11_4 rfl dX11_init_56 (Nat.le_of_ble_eq_true rfl) (Nat.le_of_ble_eq_true rfl) rfl rfl (Nat.le_of_ble_eq_true rfl) rfl ?_
  refine l_aload_n dX11_init_59 rfl rfl ?_
  refine l_new cn_X11_23 dX11_init_60 (Nat.le_of_ble_eq_true rfl) (Nat.le_of_ble_eq_true rfl) ⟨(Nat.le_of_ble_eq_true rfl), (Nat.le_of_ble_eq_true rfl)⟩ ?_
  refine l_dup dX11_init_63 rfl ?_
  refine l_callI (kk_47 (G := G) τ10 (tw_ro G ρ 0 11 [vR 1, vR 10, vR 23, vR 31, vR 39, vV .null, vV .null, vV .null, vV .null, vV .null, vV .null, vV .null, vV .null, vI 0, vI 0]) (fun k h1 h2 j => (hF10 k j (by omega)).trans ((hF1 k j (by omega)).trans (hσ k (by omega) (by omega) j))) (fun k hk => (tw_r_ne (show k ≠ 0 by omega)).trans (hρ k (by omega)))) ci_X11_25 rfl dX11_init_64 ⟨(Nat.le_of_ble_eq_true rfl), (Nat.le_of_ble_eq_true rfl)⟩ ⟨(Nat.le_of_ble_eq_true rfl), (Nat.le_of_ble_eq_true rfl)⟩ (Nat.le_of_ble_eq_true rfl) (Nat.le_of_ble_eq_true rfl) (Nat.le_of_ble_eq_true rfl) rfl (Nat.le_of_ble_eq_true rfl) rfl (fun τ47 hτ47 => ?_)
  subst hτ47
  refine l_put (fs' := [vR 1, vR 10, vR 23, vR 31, vR 39, vR 47, vV .null, vV .null, vV .null, vV .null, vV .null, vV .null, vV .null, vI 0, vI 0]) fl_X11_36 ff_X11_5 rfl dX11_init_67 (Nat.le_of_ble_eq_true rfl) (Nat.le_of_ble_eq_true rfl) rfl rfl (Nat.le_of_ble_eq_true rfl) rfl ?_
  refine l_aload_n dX11_init_70 rfl rfl ?_
  refine l_new cn_X11_39 dX11_init_71 (Nat.le_of_ble_eq_true rfl) (Nat.le_of_ble_eq_true rfl) ⟨(Nat.le_of_ble_eq_true rfl), (Nat.le_of_ble_eq_true rfl)⟩ ?_
  refine l_dup dX11_init_74 rfl ?_
  refine l_callI (kk_55 (G := G) τ10 (tw_ro G ρ 0 11 [vR 1, vR 10, vR 23, vR 31, vR 39, vR 47, vV .null, vV .null, vV .null, vV .null, vV .null, vV .null, vV .null, vI 0, vI 0]) (fun k h1 h2 j => (hF10 k j (by omega)).trans ((hF1 k j (by omega)).trans (hσ k (by omega) (by omega) j))) (fun k hk => (tw_r_ne (show k ≠ 0 by omega)).trans (hρ k (by omega)))) ci_X11_41 rfl dX11_init_75 ⟨(Nat.le_of_ble_eq_true rfl), (Nat.le_of_ble_eq_true rfl)⟩ ⟨(Nat.le_of_ble_eq_true rfl), (Nat.le_of_ble_eq_true rfl)⟩ (Nat.le_of_ble_eq_true rfl) (Nat.le_of_ble_eq_true rfl) (Nat.le_of_ble_eq_true rfl) rfl (Nat.le_of_ble_eq_true rfl) rfl (fun τ55 hτ55 => ?_)
  subst hτ55
  refine l_put (fs' := [vR 1, vR 10, vR 23, vR 31, vR 39, vR 47, vR 55, vV .null, vV .null, vV .null, vV .null, vV .null, vV .null, vI 0, vI 0]) fl_X11_42 ff_X11_6 rfl dX11_init_78 (Nat.le_of_ble_eq_true rfl) (Nat.le_of_ble_eq_true rfl) rfl rfl (Nat.le_of_ble_eq_true rfl) rfl ?_
  refine l_aload_n dX11_init_81 rfl rfl ?_
  refine l_new cn_X11_46 dX11_init_82 (Nat.le_of_ble_eq_true rfl) (Nat.le_of_ble_eq_true rfl) ⟨(Nat.le_of_ble_eq_true rfl), (Nat.le_of_ble_eq_true rfl)⟩ ?_
  refine l_dup dX11_init_85 rfl ?_
  refine l_aload_n dX11_init_86 rfl rfl ?_
  refine l_swap (by decide) ?_
  refine l_get fl_X11_10 dX11_init_87 (Nat.le_of_ble_eq_true rfl) rfl ?_
  refine l_swap (by decide) ?_
  refine l_callI (kk_56 (G := G) τ10 (tw_ro G ρ 0 11 [vR 1, vR 10, vR 23, vR 31, vR 39, vR 47, vR 55, vV .null, vV .null, vV .null, vV .null, vV .null, vV .null, vI 0, vI 0]) (fun k h1 h2 j => (hF10 k j (by omega)).trans ((hF1 k j (by omega)).trans (hσ k (by omega) (by omega) j))) (fun k hk => (tw_r_ne (show k ≠ 0 by omega)).trans (hρ k (by omega)))) ci_X11_48 rfl dX11_init_90 ⟨(Nat.le_of_ble_eq_true rfl), (Nat.le_of_ble_eq_true rfl)⟩ ⟨(Nat.le_of_ble_eq_true rfl), (Nat.le_of_ble_eq_true rfl)⟩ (Nat.le_of_ble_eq_true rfl) (Nat.le_of_ble_eq_true rfl) (Nat.le_of_ble_eq_true rfl) rfl (Nat.le_of_ble_eq_true rfl) rfl (fun τ56 hτ56 => ?_)
  subst hτ56
  refine l_put (fs' := [vR 1, vR 10, vR 23, vR 31, vR 39, vR 47, vR 55, vR 56, vV .null, vV .null, vV .null, vV .null, vV .null, vI 0, vI 0]) fl_X11_51 ff_X11_7 rfl dX11_init_93 (Nat.le_of_ble_eq_true rfl) (Nat.le_of_ble_eq_true rfl) rfl rfl (Nat.le_of_ble_eq_true rfl) rfl ?_
  refine l_aload_n dX11_init_96 rfl rfl ?_
  refine l_new cn_X11_55 dX11_init_97 (Nat.le_of_ble_eq_true rfl) (Nat.le_of_ble_eq_true rfl) ⟨(Nat.le_of_ble_eq_true rfl), (Nat.le_of_ble_eq_true rfl)⟩ ?_
  refine l_dup dX11_init_100 rfl ?_
  refine l_aload_n dX11_init_101 rfl rfl ?_
  refine l_swap (by decide) ?_
  refine l_get fl_X11_10 dX11_init_102 (Nat.le_of_ble_eq_true rfl) rfl ?_
  refine l_swap (by decide) ?_
  refine l_callI (kk_58 (G := G) τ10 (tw_ro G ρ 0 11 [vR 1, vR 10, vR 23, vR 31, vR 39, vR 47, vR 55, vR 56, vV .null, vV .null, vV .null, vV .null, vV .null, vI 0, vI 0]) (fun k h1 h2 j => (hF10 k j (by omega)).trans ((hF1 k j (by omega)).trans (hσ k (by omega) (by omega) j))) (fun k hk => (tw_r_ne (show k ≠ 0 by omega)).trans (hρ k (by omega)))) ci_X11_57 rfl dX11_init_105 ⟨(Nat.le_of_ble_eq_true rfl), (Nat.le_of_ble_eq_true rfl)⟩ ⟨(Nat.le_of_ble_eq_true rfl), (Nat.le_of_ble_eq_true rfl)⟩ (Nat.le_of_ble_eq_true rfl) (Nat.le_of_ble_eq_true rfl) (Nat.le_of_ble_eq_true rfl) rfl (Nat.le_of_ble_eq_true rfl) rfl (fun τ58 hτ58 => ?_)
  subst hτ58
  refine l_put (fs' := [vR 1, vR 10, vR 23, vR 31, vR 39, vR 47, vR 55, vR 56, vR 58, vV .null, vV .null, vV .null, vV .null, vI 0, vI 0]) fl_X11_58 ff_X11_8 rfl dX11_init_108 (Nat.le_of_ble_eq_true rfl) (Nat.le_of_ble_eq_true rfl) rfl rfl (Nat.le_of_ble_eq_true rfl) rfl ?_
  refine l_aload_n dX11_init_111 rfl rfl ?_
  refine l_new cn_X11_62 dX11_init_112 (Nat.le_of_ble_eq_true rfl) (Nat.le_of_ble_eq_true rfl) ⟨(Nat.le_of_ble_eq_true rfl), (Nat.le_of_ble_eq_true rfl)⟩ ?_
  refine l_dup dX11_init_115 rfl ?_
  refine l_aload_n dX11_init_116 rfl rfl ?_
  refine l_swap (by decide) ?_
  refine l_get fl_X11_10 dX11_init_117 (Nat.le_of_ble_eq_true rfl) rfl ?_
  refine l_aload_n dX11_init_120 rfl rfl ?_
  refine l_get fl_X11_51 dX11_init_121 (Nat.le_of_ble_eq_true rfl) rfl ?_
  refine l_swap (by decide) ?_
  refine l_callI (kk_60 (G := G) τ10 (tw_ro G ρ 0 11 [vR 1, vR 10, vR 23, vR 31, vR 39, vR 47, vR 55, vR 56, vR 58, vV .null, vV .null, vV .null, vV .null, vI 0, vI 0]) (fun k h1 h2 j => (hF10 k j (by omega)).trans ((hF1 k j (by omega)).trans (hσ k (by omega) (by omega) j))) (fun k hk => (tw_r_ne (show k ≠ 0 by omega)).trans (hρ k (by omega)))) ci_X11_64 rfl dX11_init_124 ⟨(Nat.le_of_ble_eq_true rfl), (Nat.le_of_ble_eq_true rfl)⟩ ⟨(Nat.le_of_ble_eq_true rfl), (Nat.le_of_ble_eq_true rfl)⟩ (Nat.le_of_ble_eq_true rfl) (Nat.le_of_ble_eq_true rfl) (Nat.le_of_ble_eq_true rfl) rfl (Nat.le_of_ble_eq_true rfl) rfl (fun τ60 hτ60 => ?_)
  subst hτ60
  refine l_put (fs' := [vR 1, vR 10, vR 23, vR 31, vR 39, vR 47, vR 55, vR 56, vR 58, vR 60, vV .null, vV .null, vV .null, vI 0, vI 0]) fl_X11_67 ff_X11_9 rfl dX11_init_127 (Nat.le_of_ble_eq_true rfl) (Nat.le_of_ble_eq_true rfl) rfl rfl (Nat.le_of_ble_eq_true rfl) rfl ?_
  refine l_aload_n dX11_init_130 rfl rfl ?_
  refine l_new cn_X11_71 dX11_init_131 (Nat.le_of_ble_eq_true rfl) (Nat.le_of_ble_eq_true rfl) ⟨(Nat.le_of_ble_eq_true rfl), (Nat.le_of_ble_eq_true rfl)⟩ ?_
  refine l_dup dX11_init_134 rfl ?_
  refine l_aload_n dX11_init_135 rfl rfl ?_
  refine l_swap (by decide) ?_
  refine l_get fl_X11_10 dX11_init_136 (Nat.le_of_ble_eq_true rfl) rfl ?_
  refine l_swap (by decide) ?_
  refine l_callI (kk_71 (G := G) τ10 (tw_ro G ρ 0 11 [vR 1, vR 10, vR 23, vR 31, vR 39, vR 47, vR 55, vR 56, vR 58, vR 60, vV .null, vV .null, vV .null, vI 0, vI 0]) (fun k h1 h2 j => (hF10 k j (by omega)).trans ((hF1 k j (by omega)).trans (hσ k (by omega) (by omega) j))) (fun k hk => (tw_r_ne (show k ≠ 0 by omega)).trans (hρ k (by omega)))) ci_X11_73 rfl dX11_init_139 ⟨(Nat.le_of_ble_eq_true rfl), (Nat.le_of_ble_eq_true rfl)⟩ ⟨(Nat.le_of_ble_eq_true rfl), (Nat.le_of_ble_eq_true rfl)⟩ (Nat.le_of_ble_eq_true rfl) (Nat.le_of_ble_eq_true rfl) (Nat.le_of_ble_eq_true rfl) rfl (Nat.le_of_ble_eq_true rfl) rfl (fun τ71 hτ71 => ?_)
  subst hτ71
  refine l_put (fs' := [vR 1, vR 10, vR 23, vR 31, vR 39, vR 47, vR 55, vR 56, vR 58, vR 60, vR 71, vV .null, vV .null, vI 0, vI 0]) fl_X11_74 ff_X11_10 rfl dX11_init_142 (Nat.le_of_ble_eq_true rfl) (Nat.le_of_ble_eq_true rfl) rfl rfl (Nat.le_of_ble_eq_true rfl) rfl ?_
  refine l_aload_n dX11_init_145 rfl rfl ?_
  refine l_new cn_X11_78 dX11_init_146 (Nat.le_of_ble_eq_true rfl) (Nat.le_of_ble_eq_true rfl) ⟨(Nat.le_of_ble_eq_true rfl), (Nat.le_of_ble_eq_true rfl)⟩ ?_
  refine l_dup dX11_init_149 rfl ?_
  refine l_aload_n dX11_init_150 rfl rfl ?_
  refine l_swap (by decide) ?_
  refine l_get fl_X11_10 dX11_init_151 (Nat.le_of_ble_eq_true rfl) rfl ?_
  refine l_swap (by decide) ?_
  refine l_callI (kk_76 (G := G) τ10 (tw_ro G ρ 0 11 [vR 1, vR 10, vR 23, vR 31, vR 39, vR 47, vR 55, vR 56, vR 58, vR 60, vR 71, vV .null, vV .null, vI 0, vI 0]) (fun k h1 h2 j => (hF10 k j (by omega)).trans ((hF1 k j (by omega)).trans (hσ k (by omega) (by omega) j))) (fun k hk => (tw_r_ne (show k ≠ 0 by omega)).trans (hρ k (by omega)))) ci_X11_80 rfl dX11_init_154 ⟨(Nat.le_of_ble_eq_true rfl), (Nat.le_of_ble_eq_true rfl)⟩ ⟨(Nat.le_of_ble_eq_true rfl), (Nat.le_of_ble_eq_true rfl)⟩ (Nat.le_of_ble_eq_true rfl) (Nat.le_of_ble_eq_true rfl) (Nat.le_of_ble_eq_true rfl) rfl (Nat.le_of_ble_eq_true rfl) rfl (fun τ76 hτ76 => ?_)
  subst hτ76
  refine l_put (fs' := [vR 1, vR 10, vR 23, vR 31, vR 39, vR 47, vR 55, vR 56, vR 58, vR 60, vR 71, vR 76, vV .null, vI 0, vI 0]) fl_X11_81 ff_X11_11 rfl dX11_init_157 (Nat.le_of_ble_eq_true rfl) (Nat.le_of_ble_eq_true rfl) rfl rfl (Nat.le_of_ble_eq_true rfl) rfl ?_
  refine l_aload_n dX11_init_160 rfl rfl ?_
  refine l_iconst dX11_init_161 ?_
  refine l_newq ao_q dX11_init_162 (Nat.le_of_ble_eq_true rfl) (Nat.le_of_ble_eq_true rfl) ⟨(Nat.le_of_ble_eq_true rfl), (Nat.le_of_ble_eq_true rfl)⟩ ?_
  refine l_swap (by decide) ?_
  refine l_put (fs' := [vR 1, vR 10, vR 23, vR 31, vR 39, vR 47, vR 55, vR 56, vR 58, vR 60, vR 71, vR 76, vR 79, vI 0, vI 0]) fl_X11_87 ff_X11_12 rfl dX11_init_165 (Nat.le_of_ble_eq_true rfl) (Nat.le_of_ble_eq_true rfl) rfl rfl (Nat.le_of_ble_eq_true rfl) rfl ?_
  refine l_aload_n dX11_init_168 rfl rfl ?_
  refine l_iconst dX11_init_169 ?_
  refine l_put (fs' := [vR 1, vR 10, vR 23, vR 31, vR 39, vR 47, vR 55, vR 56, vR 58, vR 60, vR 71, vR 76, vR 79, vI 0, vI 0]) fl_X11_91 ff_X11_13 rfl dX11_init_170 (Nat.le_of_ble_eq_true rfl) (Nat.le_of_ble_eq_true rfl) rfl rfl (Nat.le_of_ble_eq_true rfl) rfl ?_
  refine l_aload_n dX11_init_173 rfl rfl ?_
  refine l_iconst dX11_init_174 ?_
  refine l_put (fs' := [vR 1, vR 10, vR 23, vR 31, vR 39, vR 47, vR 55, vR 56, vR 58, vR 60, vR 71, vR 76, vR 79, vI 0, vI 0]) fl_X11_95 ff_X11_14 rfl dX11_init_175 (Nat.le_of_ble_eq_true rfl) (Nat.le_of_ble_eq_true rfl) rfl rfl (Nat.le_of_ble_eq_true rfl) rfl ?_
  refine l_iconst dX11_init_178 ?_
  refine l_istore_n (i := 1) (ls' := [(0, vR 0), (1, vI 0)]) [1, 0] dX11_init_179 rfl (Nat.le_of_ble_eq_true rfl) rfl rfl ?_
  refine l_iload_n dX11_init_180 rfl rfl ?_
  refine l_aload_n dX11_init_181 rfl rfl ?_
  refine l_get fl_X11_87 dX11_init_182 (Nat.le_of_ble_eq_true rfl) rfl ?_
  refine l_swap (by decide) ?_
  refine l_alenq dX11_init_185 (Nat.le_of_ble_eq_true rfl) ?_
  refine l_geF (tgt := 208) dX11_init_186 rfl (by decide) ?_
  refine l_aload_n dX11_init_189 rfl rfl ?_
  refine l_swap (by decide) ?_
  refine l_get fl_X11_87 dX11_init_190 (Nat.le_of_ble_eq_true rfl) rfl ?_
  refine l_iload_n dX11_init_193 rfl rfl ?_
  refine l_new cn_X11_85 dX11_init_194 (Nat.le_of_ble_eq_true rfl) (Nat.le_of_ble_eq_true rfl) ⟨(Nat.le_of_ble_eq_true rfl), (Nat.le_of_ble_eq_true rfl)⟩ ?_
  refine l_dup dX11_init_197 rfl ?_
  refine l_callI (kk_80 (G := G) τ10 (tw_ro G (tw_r ρ 79 (tw_eq G (fun _ => none))) 0 11 [vR 1, vR 10, vR 23, vR 31, vR 39, vR 47, vR 55, vR 56, vR 58, vR 60, vR 71, vR 76, vR 79, vI 0, vI 0]) (fun k h1 h2 j => (hF10 k j (by omega)).trans ((hF1 k j (by omega)).trans (hσ k (by omega) (by omega) j))) (fun k hk => (tw_r_ne (show k ≠ 0 by omega)).trans ((tw_r_ne (show k ≠ 79 by omega)).trans (hρ k (by omega))))) ci_X11_98 rfl dX11_init_198 ⟨(Nat.le_of_ble_eq_true rfl), (Nat.le_of_ble_eq_true rfl)⟩ ⟨(Nat.le_of_ble_eq_true rfl), (Nat.le_of_ble_eq_true rfl)⟩ (Nat.le_of_ble_eq_true rfl) (Nat.le_of_ble_eq_true rfl) (Nat.le_of_ble_eq_true rfl) rfl (Nat.le_of_ble_eq_true rfl) rfl (fun τ80 hτ80 => ?_)
  subst hτ80
  refine l_swap (by decide) ?_
  refine l_astq (i := 0) (sl := [83, 0, 0, 0]) dX11_init_201 (Nat.le_of_ble_eq_true rfl) (Nat.le_of_ble_eq_true rfl) (Nat.le_of_ble_eq_true rfl) (by decide) ((tw_r_ne (show (80 : Nat) ≠ 0 by decide)).trans (hρ 80 (by decide))) rfl (by decide) (by decide) ?_
  refine l_iinc (i := 1) (z := 1) (a := 0) (ls' := [(0, vR 0), (1, vI 1)]) [1, 0] dX11_init_202 rfl (Nat.le_of_ble_eq_true rfl) rfl rfl ?_
  refine l_goto (tgt := 180) dX11_init_205 rfl ?_
  refine l_iload_n dX11_init_180 rfl rfl ?_
  refine l_aload_n dX11_init_181 rfl rfl ?_
  refine l_swap (by decide) ?_
  refine l_get fl_X11_87 dX11_init_182 (Nat.le_of_ble_eq_true rfl) rfl ?_
  refine l_swap (by decide) ?_
  refine l_alenq dX11_init_185 (Nat.le_of_ble_eq_true rfl) ?_
  refine l_geF (tgt := 208) dX11_init_186 rfl (by decide) ?_
  refine l_aload_n dX11_init_189 rfl rfl ?_
  refine l_swap (by decide) ?_
  refine l_get fl_X11_87 dX11_init_190 (Nat.le_of_ble_eq_true rfl) rfl ?_
  refine l_iload_n dX11_init_193 rfl rfl ?_
  refine l_new cn_X11_85 dX11_init_194 (Nat.le_of_ble_eq_true rfl) (Nat.le_of_ble_eq_true rfl) ⟨(Nat.le_of_ble_eq_true rfl), (Nat.le_of_ble_eq_true rfl)⟩ ?_
  refine l_dup dX11_init_197 rfl ?_
  refine l_callI (kk_82 (G := G) τ10 (tw_ro G (tw_r ρ 79 (tw_eq G (va_up (fun _ => none) (Int.toNat 0) (some (gad G 80))))) 0 11 [vR 1, vR 10, vR 23, vR 31, vR 39, vR 47, vR 55, vR 56, vR 58, vR 60, vR 71, vR 76, vR 79, vI 0, vI 0]) (fun k h1 h2 j => (hF10 k j (by omega)).trans ((hF1 k j (by omega)).trans (hσ k (by omega) (by omega) j))) (fun k hk => (tw_r_ne (show k ≠ 0 by omega)).trans ((tw_r_ne (show k ≠ 79 by omega)).trans (hρ k (by omega))))) ci_X11_98 rfl dX11_init_198 ⟨(Nat.le_of_ble_eq_true rfl), (Nat.le_of_ble_eq_true rfl)⟩ ⟨(Nat.le_of_ble_eq_true rfl), (Nat.le_of_ble_eq_true rfl)⟩ (Nat.le_of_ble_eq_true rfl) (Nat.le_of_ble_eq_true rfl) (Nat.le_of_ble_eq_true rfl) rfl (Nat.le_of_ble_eq_true rfl) rfl (fun τ82 hτ82 => ?_)
  subst hτ82
  refine l_swap (by decide) ?_
  refine l_astq (i := 1) (sl := [85, 0, 0, 0]) dX11_init_201 (Nat.le_of_ble_eq_true rfl) (Nat.le_of_ble_eq_true rfl) (Nat.le_of_ble_eq_true rfl) (by decide) ((tw_r_ne (show (82 : Nat) ≠ 0 by decide)).trans (hρ 82 (by decide))) rfl (by decide) (by decide) ?_
  refine l_iinc (i := 1) (z := 1) (a := 1) (ls' := [(0, vR 0), (1, vI 2)]) [1, 0] dX11_init_202 rfl (Nat.le_of_ble_eq_true rfl) rfl rfl ?_
  refine l_goto (tgt := 180) dX11_init_205 rfl ?_
  refine l_iload_n dX11_init_180 rfl rfl ?_
  refine l_aload_n dX11_init_181 rfl rfl ?_
  refine l_swap (by decide) ?_
  refine l_get fl_X11_87 dX11_init_182 (Nat.le_of_ble_eq_true rfl) rfl ?_
  refine l_swap (by decide) ?_
  refine l_alenq dX11_init_185 (Nat.le_of_ble_eq_true rfl) ?_
  refine l_geF (tgt := 208) dX11_init_186 rfl (by decide) ?_
  refine l_aload_n dX11_init_189 rfl rfl ?_
  refine l_swap (by decide) ?_
  refine l_get fl_X11_87 dX11_init_190 (Nat.le_of_ble_eq_true rfl) rfl ?_
  refine l_iload_n dX11_init_193 rfl rfl ?_
  refine l_new cn_X11_85 dX11_init_194 (Nat.le_of_ble_eq_true rfl) (Nat.le_of_ble_eq_true rfl) ⟨(Nat.le_of_ble_eq_true rfl), (Nat.le_of_ble_eq_true rfl)⟩ ?_
  refine l_dup dX11_init_197 rfl ?_
  refine l_callI (kk_84 (G := G) τ10 (tw_ro G (tw_r ρ 79 (tw_eq G (va_up (va_up (fun _ => none) (Int.toNat 0) (some (gad G 80))) (Int.toNat 1) (some (gad G 82))))) 0 11 [vR 1, vR 10, vR 23, vR 31, vR 39, vR 47, vR 55, vR 56, vR 58, vR 60, vR 71, vR 76, vR 79, vI 0, vI 0]) (fun k h1 h2 j => (hF10 k j (by omega)).trans ((hF1 k j (by omega)).trans (hσ k (by omega) (by omega) j))) (fun k hk => (tw_r_ne (show k ≠ 0 by omega)).trans ((tw_r_ne (show k ≠ 79 by omega)).trans (hρ k (by omega))))) ci_X11_98 rfl dX11_init_198 ⟨(Nat.le_of_ble_eq_true rfl), (Nat.le_of_ble_eq_true rfl)⟩ ⟨(Nat.le_of_ble_eq_true rfl), (Nat.le_of_ble_eq_true rfl)⟩ (Nat.le_of_ble_eq_true rfl) (Nat.le_of_ble_eq_true rfl) (Nat.le_of_ble_eq_true rfl) rfl (Nat.le_of_ble_eq_true rfl) rfl (fun τ84 hτ84 => ?_)
  subst hτ84
  refine l_swap (by decide) ?_
  refine l_astq (i := 2) (sl := [87, 0, 0, 0]) dX11_init_201 (Nat.le_of_ble_eq_true rfl) (Nat.le_of_ble_eq_true rfl) (Nat.le_of_ble_eq_true rfl) (by decide) ((tw_r_ne (show (84 : Nat) ≠ 0 by decide)).trans (hρ 84 (by decide))) rfl (by decide) (by decide) ?_
  refine l_iinc (i := 1) (z := 1) (a := 2) (ls' := [(0, vR 0), (1, vI 3)]) [1, 0] dX11_init_202 rfl (Nat.le_of_ble_eq_true rfl) rfl rfl ?_
  refine l_goto (tgt := 180) dX11_init_205 rfl ?_
  refine l_iload_n dX11_init_180 rfl rfl ?_
  refine l_aload_n dX11_init_181 rfl rfl ?_
  refine l_swap (by decide) ?_
  refine l_get fl_X11_87 dX11_init_182 (Nat.le_of_ble_eq_true rfl) rfl ?_
  refine l_swap (by decide) ?_
  refine l_alenq dX11_init_185 (Nat.le_of_ble_eq_true rfl) ?_
  refine l_geF (tgt := 208) dX11_init_186 rfl (by decide) ?_
  refine l_aload_n dX11_init_189 rfl rfl ?_
  refine l_swap (by decide) ?_
  refine l_get fl_X11_87 dX11_init_190 (Nat.le_of_ble_eq_true rfl) rfl ?_
  refine l_iload_n dX11_init_193 rfl rfl ?_
  refine l_new cn_X11_85 dX11_init_194 (Nat.le_of_ble_eq_true rfl) (Nat.le_of_ble_eq_true rfl) ⟨(Nat.le_of_ble_eq_true rfl), (Nat.le_of_ble_eq_true rfl)⟩ ?_
  refine l_dup dX11_init_197 rfl ?_
  refine l_callI (kk_86 (G := G) τ10 (tw_ro G (tw_r ρ 79 (tw_eq G (va_up (va_up (va_up (fun _ => none) (Int.toNat 0) (some (gad G 80))) (Int.toNat 1) (some (gad G 82))) (Int.toNat 2) (some (gad G 84))))) 0 11 [vR 1, vR 10, vR 23, vR 31, vR 39, vR 47, vR 55, vR 56, vR 58, vR 60, vR 71, vR 76, vR 79, vI 0, vI 0]) (fun k h1 h2 j => (hF10 k j (by omega)).trans ((hF1 k j (by omega)).trans (hσ k (by omega) (by omega) j))) (fun k hk => (tw_r_ne (show k ≠ 0 by omega)).trans ((tw_r_ne (show k ≠ 79 by omega)).trans (hρ k (by omega))))) ci_X11_98 rfl dX11_init_198 ⟨(Nat.le_of_ble_eq_true rfl), (Nat.le_of_ble_eq_true rfl)⟩ ⟨(Nat.le_of_ble_eq_true rfl), (Nat.le_of_ble_eq_true rfl)⟩ (Nat.le_of_ble_eq_true rfl) (Nat.le_of_ble_eq_true rfl) (Nat.le_of_ble_eq_true rfl) rfl (Nat.le_of_ble_eq_true rfl) rfl (fun τ86 hτ86 => ?_)
  subst hτ86
  refine l_swap (by decide) ?_
  refine l_astq (i := 3) (sl := [89, 0, 0, 0]) dX11_init_201 (Nat.le_of_ble_eq_true rfl) (Nat.le_of_ble_eq_true rfl) (Nat.le_of_ble_eq_true rfl) (by decide) ((tw_r_ne (show (86 : Nat) ≠ 0 by decide)).trans (hρ 86 (by decide))) rfl (by decide) (by decide) ?_
  refine l_iinc (i := 1) (z := 1) (a := 3) (ls' := [(0, vR 0), (1, vI 4)]) [1, 0] dX11_init_202 rfl (Nat.le_of_ble_eq_true rfl) rfl rfl ?_
  refine l_goto (tgt := 180) dX11_init_205 rfl ?_
  refine l_iload_n dX11_init_180 rfl rfl ?_
  refine l_aload_n dX11_init_181 rfl rfl ?_
  refine l_swap (by decide) ?_
  refine l_get fl_X11_87 dX11_init_182 (Nat.le_of_ble_eq_true rfl) rfl ?_
  refine l_swap (by decide) ?_
  refine l_alenq dX11_init_185 (Nat.le_of_ble_eq_true rfl) ?_
  refine l_geT (tgt := 208) dX11_init_186 rfl (by decide) ?_
  refine l_aload_n dX11_init_208 rfl rfl ?_
  refine l_swap (by decide) ?_
  refine l_get fl_X11_26 dX11_init_209 (Nat.le_of_ble_eq_true rfl) rfl ?_
  refine l_aload_n dX11_init_212 rfl rfl ?_
  refine l_get fl_X11_10 dX11_init_213 (Nat.le_of_ble_eq_true rfl) rfl ?_
  refine l_fin ((tw_r_ne (show (0 : Nat) ≠ 79 by decide)).trans (hρ 0 (by decide))) ((tw_e_cg (fun j => (hF10 0 j (by omega)).trans ((hF1 0 j (by omega)).trans (hσ 0 (by decide) (by decide) j)))).trans rfl) ?_
  refine l_fin (hρ 79 (by decide)) tw_q79 ?_
  have hX : tw_isX (tw_sub G (List.range 88)) := ⟨fun k hk => List.mem_range.mpr hk, hgt⟩
  have hIA : tw_I τ10 := tw_I0_I hI10 (Wb_F (fun j => hF10 2 j (by omega)) hW1) (fun j hj => hW10 j hj) (Wb_F (fun j => (hF10 91 j (by omega)).trans (hF1 91 j (by omega))) h91)
  refine l_callV (ks := List.range 88) (o := 23) (k := 1) (sl := [26, 30, 31, 32, 0, 0, 0]) (c_X3_begin 23 (s_Hand_23 hX) 1 (s_Wall_1 hX) τ10 hIA (Or.inr (by decide))) mv_X11_99 rfl rfl rfl rfl (Nat.le_of_ble_eq_true rfl) (hρ 23 (by decide)) dX11_init_216 ⟨(Nat.le_of_ble_eq_true rfl), (Nat.le_of_ble_eq_true rfl)⟩ ⟨(Nat.le_of_ble_eq_true rfl), (Nat.le_of_ble_eq_true rfl)⟩ (Nat.le_of_ble_eq_true rfl) (by decide) (fun k hk => ⟨List.mem_range.mp hk, hρ k (by omega)⟩) rfl (Nat.le_of_ble_eq_true rfl) rfl (fun z τ hq => ⟨hq.1, fun k hk j => hq.2.2.1 k j (fun h => hk (List.mem_range.mpr (by omega)))⟩) (fun τb hqτb => ?_)
  obtain ⟨b0, b1, b2, b3, g0, g1, g2, g3⟩ := hqτb.2.2.2
  have B1 : WBG 1 τ10 := WBG_F hB1 (fun c j a b => hF10 c j (by omega))
  have B2 : WBG 1 τb := WBG_F B1 (fun c j a b => hqτb.2.2.1 c j (by omega))
  exact l_vret dX11_init_219 rfl rfl (Nat.le_of_ble_eq_true rfl) (Nat.le_of_ble_eq_true rfl) ⟨hqτb.2.1, fun c j h => (hqτb.2.2.1 c j (by omega)).trans ((hF10 c j (by omega)).trans (hF1 c j (by omega))), b0, b1, b2, b3, B2, g0, fun j hj => (g1 j hj).trans (B1.2.1 j (by omega)), g2.trans ((B1.1 5 (by decide)).trans (by decide +kernel)), g3.trans ((B1.1 6 (by decide)).trans (by decide +kernel))⟩
set_option maxHeartbeats 4000000 in
set_option maxRecDepth 100000 in
theorem kk_88 {G : tw_G} (σ : tw_M) (ρ : tw_R) (hσ : ∀ k, 88 ≤ k → k < 107 → ∀ j, σ k j = tw_ini k j) (hρ : ∀ k, 88 ≤ k → ρ k = none) (hI : tw_I0 σ) (hgt : tw_gt G) : tw_CC G yX12_init cX12_init 2 2 88 107 1665 [] σ ρ (.inr (12, dfX12.map (tw_v G))) (fun τ => tw_I0 τ ∧ Wb 91 91 τ 9 ∧ mI τ ∧ tw_F (fun c j => 88 ≤ c) σ τ ∧ (∀ c j, (c = 88 ∧ j ≠ 9 ∧ j ≠ 10) ∨ (98 ≤ c ∧ c < 107 ∧ c ≠ 104) → τ c j = 0) ∧ (τ 90 0 = 0 ∧ τ 90 1 = 0) ∧ (τ 89 93 = 0 ∧ τ 89 94 = 0 ∧ τ 89 95 = 0 ∧ τ 89 96 = 0) ∧ (∀ j, 100 ≤ j → τ 89 j = 0) ∧ (wM τ = pwB D0 ∧ (∀ j : Nat, j < 11 → τ 89 (82 + j) = 0) ∧ (∀ j : Nat, j < 82 → τ 89 j = 0) ∧ τ 91 5 = 18 ∧ τ 91 6 = 10) ∧ ∀ j, j < 4 → τ 104 j = -4) := by
  refine tw_metC [(0, vR 88)] (by decide +kernel) rfl rfl (Nat.le_of_ble_eq_true rfl) ?_
  refine l_aload_n dX12_init_0 rfl rfl ?_
  refine l_objInit oi_X12_1 dX12_init_1 ⟨(Nat.le_of_ble_eq_true rfl), (Nat.le_of_ble_eq_true rfl)⟩ rfl ?_
  refine l_aload_n dX12_init_4 rfl rfl ?_
  refine l_sipush dX12_init_5 rfl ?_
  refine l_newaI (n := 89) (N := 400) ac_I dX12_init_8 rfl ((tw_r_ne (show (89 : Nat) ≠ 88 by decide)).trans (hρ 89 (by decide))) (fun j _ => (hσ 89 (by decide) (by decide) j).trans (tw_ini0 (by decide))) rfl (Nat.le_of_ble_eq_true rfl) (Nat.le_of_ble_eq_true rfl) (Nat.le_of_ble_eq_true rfl) ⟨(Nat.le_of_ble_eq_true rfl), (Nat.le_of_ble_eq_true rfl)⟩ ?_
  refine l_put (fs' := [vR 89, vV .null, vV .null, vV .null, vV .null, vV .null, vV .null, vV .null, vV .null, vI 0, vI 0, vV .null, vI 0, vI 0, vI 0, vI 0, vI 0, vI 0, vI 0, vI 0, vI 0, vI 0, vI 0, vI 0, vI 0, vI 0, vI 0, vI 0, vV .null, vV .null, vI 0, vV .null, vV .null, vV .null, vI 0, vV .null, vV .null, vV .null, vI 0]) fl_X12_7 ff_X12_0 rfl dX12_init_10 (Nat.le_of_ble_eq_true rfl) (Nat.le_of_ble_eq_true rfl) rfl rfl (Nat.le_of_ble_eq_true rfl) rfl ?_
  refine l_aload_n dX12_init_13 rfl rfl ?_
  refine l_iconst dX12_init_14 ?_
  refine l_newaZ (n := 90) (N := 2) ac_Z dX12_init_15 rfl ((tw_r_ne (show (90 : Nat) ≠ 88 by decide)).trans (hρ 90 (by decide))) (fun j _ => (hσ 90 (by decide) (by decide) j).trans (tw_ini0 (by decide))) rfl (Nat.le_of_ble_eq_true rfl) (Nat.le_of_ble_eq_true rfl) (Nat.le_of_ble_eq_true rfl) ⟨(Nat.le_of_ble_eq_true rfl), (Nat.le_of_ble_eq_true rfl)⟩ ?_
  refine l_put (fs' := [vR 89, vR 90, vV .null, vV .null, vV .null, vV .null, vV .null, vV .null, vV .null, vI 0, vI 0, vV .null, vI 0, vI 0, vI 0, vI 0, vI 0, vI 0, vI 0, vI 0, vI 0, vI 0, vI 0, vI 0, vI 0, vI 0, vI 0, vI 0, vV .null, vV .null, vI 0, vV .null, vV .null, vV .null, vI 0, vV .null, vV .null, vV .null, vI 0]) fl_X12_13 ff_X12_1 rfl dX12_init_17 (Nat.le_of_ble_eq_true rfl) (Nat.le_of_ble_eq_true rfl) rfl rfl (Nat.le_of_ble_eq_true rfl) rfl ?_
  refine l_aload_n dX12_init_20 rfl rfl ?_
  refine l_bipush dX12_init_21 rfl ?_
  refine l_newaI (n := 91) (N := 9) ac_I dX12_init_23 rfl ((tw_r_ne (show (91 : Nat) ≠ 88 by decide)).trans (hρ 91 (by decide))) (fun j _ => (hσ 91 (by decide) (by decide) j).trans (tw_ini0 (by decide))) rfl (Nat.le_of_ble_eq_true rfl) (Nat.le_of_ble_eq_true rfl) (Nat.le_of_ble_eq_true rfl) ⟨(Nat.le_of_ble_eq_true rfl), (Nat.le_of_ble_eq_true rfl)⟩ ?_
  refine l_put (fs' := [vR 89, vR 90, vR 91, vV .null, vV .null, vV .null, vV .null, vV .null, vV .null, vI 0, vI 0, vV .null, vI 0, vI 0, vI 0, vI 0, vI 0, vI 0, vI 0, vI 0, vI 0, vI 0, vI 0, vI 0, vI 0, vI 0, vI 0, vI 0, vV .null, vV .null, vI 0, vV .null, vV .null, vV .null, vI 0, vV .null, vV .null, vV .null, vI 0]) fl_X12_17 ff_X12_2 rfl dX12_init_25 (Nat.le_of_ble_eq_true rfl) (Nat.le_of_ble_eq_true rfl) rfl rfl (Nat.le_of_ble_eq_true rfl) rfl ?_
  refine l_aload_n dX12_init_28 rfl rfl ?_
  refine l_sipush dX12_init_29 rfl ?_
  refine l_newaI (n := 92) (N := 205) ac_I dX12_init_32 rfl ((tw_r_ne (show (92 : Nat) ≠ 88 by decide)).trans (hρ 92 (by decide))) (fun j _ => (hσ 92 (by decide) (by decide) j).trans (tw_ini0 (by decide))) rfl (Nat.le_of_ble_eq_true rfl) (Nat.le_of_ble_eq_true rfl) (Nat.le_of_ble_eq_true rfl) ⟨(Nat.le_of_ble_eq_true rfl), (Nat.le_of_ble_eq_true rfl)⟩ ?_
  refine l_put (fs' := [vR 89, vR 90, vR 91, vR 92, vV .null, vV .null, vV .null, vV .null, vV .null, vI 0, vI 0, vV .null, vI 0, vI 0, vI 0, vI 0, vI 0, vI 0, vI 0, vI 0, vI 0, vI 0, vI 0, vI 0, vI 0, vI 0, vI 0, vI 0, vV .null, vV .null, vI 0, vV .null, vV .null, vV .null, vI 0, vV .null, vV .null, vV .null, vI 0]) fl_X12_20 ff_X12_3 rfl dX12_init_34 (Nat.le_of_ble_eq_true rfl) (Nat.le_of_ble_eq_true rfl) rfl rfl (Nat.le_of_ble_eq_true rfl) rfl ?_
  refine l_aload_n dX12_init_37 rfl rfl ?_
  refine l_bipush dX12_init_38 rfl ?_
  refine l_newaI (n := 93) (N := 9) ac_I dX12_init_40 rfl ((tw_r_ne (show (93 : Nat) ≠ 88 by decide)).trans (hρ 93 (by decide))) (fun j _ => (hσ 93 (by decide) (by decide) j).trans (tw_ini0 (by decide))) rfl (Nat.le_of_ble_eq_true rfl) (Nat.le_of_ble_eq_true rfl) (Nat.le_of_ble_eq_true rfl) ⟨(Nat.le_of_ble_eq_true rfl), (Nat.le_of_ble_eq_true rfl)⟩ ?_
  refine l_put (fs' := [vR 89, vR 90, vR 91, vR 92, vR 93, vV .null, vV .null, vV .null, vV .null, vI 0, vI 0, vV .null, vI 0, vI 0, vI 0, vI 0, vI 0, vI 0, vI 0, vI 0, vI 0, vI 0, vI 0, vI 0, vI 0, vI 0, vI 0, vI 0, vV .null, vV .null, vI 0, vV .null, vV .null, vV .null, vI 0, vV .null, vV .null, vV .null, vI 0]) fl_X12_23 ff_X12_4 rfl dX12_init_42 (Nat.le_of_ble_eq_true rfl) (Nat.le_of_ble_eq_true rfl) rfl rfl (Nat.le_of_ble_eq_true rfl) rfl ?_
  refine l_aload_n dX12_init_45 rfl rfl ?_
  refine l_sipush dX12_init_46 rfl ?_
  refine l_newaI (n := 94) (N := 205) ac_I dX12_init_49 rfl ((tw_r_ne (show (94 : Nat) ≠ 88 by decide)).trans (hρ 94 (by decide))) (fun j _ => (hσ 94 (by decide) (by decide) j).trans (tw_ini0 (by decide))) rfl (Nat.le_of_ble_eq_true rfl) (Nat.le_of_ble_eq_true rfl) (Nat.le_of_ble_eq_true rfl) ⟨(Nat.le_of_ble_eq_true rfl), (Nat.le_of_ble_eq_true rfl)⟩ ?_
  refine l_put (fs' := [vR 89, vR 90, vR 91, vR 92, vR 93, vR 94, vV .null, vV .null, vV .null, vI 0, vI 0, vV .null, vI 0, vI 0, vI 0, vI 0, vI 0, vI 0, vI 0, vI 0, vI 0, vI 0, vI 0, vI 0, vI 0, vI 0, vI 0, vI 0, vV .null, vV .null, vI 0, vV .null, vV .null, vV .null, vI 0, vV .null, vV .null, vV .null, vI 0]) fl_X12_26 ff_X12_5 rfl dX12_init_51 (Nat.le_of_ble_eq_true rfl) (Nat.le_of_ble_eq_true rfl) rfl rfl (Nat.le_of_ble_eq_true rfl) rfl ?_
  refine l_aload_n dX12_init_54 rfl rfl ?_
  refine l_bipush dX12_init_55 rfl ?_
  refine l_newaI (n := 95) (N := 11) ac_I dX12_init_57 rfl ((tw_r_ne (show (95 : Nat) ≠ 88 by decide)).trans (hρ 95 (by decide))) (fun j _ => (hσ 95 (by decide) (by decide) j).trans (tw_ini0 (by decide))) rfl (Nat.le_of_ble_eq_true rfl) (Nat.le_of_ble_eq_true rfl) (Nat.le_of_ble_eq_true rfl) ⟨(Nat.le_of_ble_eq_true rfl), (Nat.le_of_ble_eq_true rfl)⟩ ?_
  refine l_put (fs' := [vR 89, vR 90, vR 91, vR 92, vR 93, vR 94, vR 95, vV .null, vV .null, vI 0, vI 0, vV .null, vI 0, vI 0, vI 0, vI 0, vI 0, vI 0, vI 0, vI 0, vI 0, vI 0, vI 0, vI 0, vI 0, vI 0, vI 0, vI 0, vV .null, vV .null, vI 0, vV .null, vV .null, vV .null, vI 0, vV .null, vV .null, vV .null, vI 0]) fl_X12_29 ff_X12_6 rfl dX12_init_59 (Nat.le_of_ble_eq_true rfl) (Nat.le_of_ble_eq_true rfl) rfl rfl (Nat.le_of_ble_eq_true rfl) rfl ?_
  refine l_aload_n dX12_init_62 rfl rfl ?_
  refine l_bipush dX12_init_63 rfl ?_
  refine l_newaZ (n := 96) (N := 41) ac_Z dX12_init_65 rfl ((tw_r_ne (show (96 : Nat) ≠ 88 by decide)).trans (hρ 96 (by decide))) (fun j _ => (hσ 96 (by decide) (by decide) j).trans (tw_ini0 (by decide))) rfl (Nat.le_of_ble_eq_true rfl) (Nat.le_of_ble_eq_true rfl) (Nat.le_of_ble_eq_true rfl) ⟨(Nat.le_of_ble_eq_true rfl), (Nat.le_of_ble_eq_true rfl)⟩ ?_
  refine l_put (fs' := [vR 89, vR 90, vR 91, vR 92, vR 93, vR 94, vR 95, vR 96, vV .null, vI 0, vI 0, vV .null, vI 0, vI 0, vI 0, vI 0, vI 0, vI 0, vI 0, vI 0, vI 0, vI 0, vI 0, vI 0, vI 0, vI 0, vI 0, vI 0, vV .null, vV .null, vI 0, vV .null, vV .null, vV .null, vI 0, vV .null, vV .null, vV .null, vI 0]) fl_X12_32 ff_X12_7 rfl dX12_init_67 (Nat.le_of_ble_eq_true rfl) (Nat.le_of_ble_eq_true rfl) rfl rfl (Nat.le_of_ble_eq_true rfl) rfl ?_
  refine l_aload_n dX12_init_70 rfl rfl ?_
  refine l_bipush dX12_init_71 rfl ?_
  refine l_newaZ (n := 97) (N := 11) ac_Z dX12_init_73 rfl ((tw_r_ne (show (97 : Nat) ≠ 88 by decide)).trans (hρ 97 (by decide))) (fun j _ => (hσ 97 (by decide) (by decide) j).trans (tw_ini0 (by decide))) rfl (Nat.le_of_ble_eq_true rfl) (Nat.le_of_ble_eq_true rfl) (Nat.le_of_ble_eq_true rfl) ⟨(Nat.le_of_ble_eq_true rfl), (Nat.le_of_ble_eq_true rfl)⟩ ?_
  refine l_put (fs' := [vR 89, vR 90, vR 91, vR 92, vR 93, vR 94, vR 95, vR 96, vR 97, vI 0, vI 0, vV .null, vI 0, vI 0, vI 0, vI 0, vI 0, vI 0, vI 0, vI 0, vI 0, vI 0, vI 0, vI 0, vI 0, vI 0, vI 0, vI 0, vV .null, vV .null, vI 0, vV .null, vV .null, vV .null, vI 0, vV .null, vV .null, vV .null, vI 0]) fl_X12_35 ff_X12_8 rfl dX12_init_75 (Nat.le_of_ble_eq_true rfl) (Nat.le_of_ble_eq_true rfl) rfl rfl (Nat.le_of_ble_eq_true rfl) rfl ?_
  refine l_aload_n dX12_init_78 rfl rfl ?_
  refine l_sipush dX12_init_79 rfl ?_
  refine l_newaI (n := 98) (N := 400) ac_I dX12_init_82 rfl ((tw_r_ne (show (98 : Nat) ≠ 88 by decide)).trans (hρ 98 (by decide))) (fun j _ => (hσ 98 (by decide) (by decide) j).trans (tw_ini0 (by decide))) rfl (Nat.le_of_ble_eq_true rfl) (Nat.le_of_ble_eq_true rfl) (Nat.le_of_ble_eq_true rfl) ⟨(Nat.le_of_ble_eq_true rfl), (Nat.le_of_ble_eq_true rfl)⟩ ?_
  refine l_put (fs' := [vR 89, vR 90, vR 91, vR 92, vR 93, vR 94, vR 95, vR 96, vR 97, vI 0, vI 0, vR 98, vI 0, vI 0, vI 0, vI 0, vI 0, vI 0, vI 0, vI 0, vI 0, vI 0, vI 0, vI 0, vI 0, vI 0, vI 0, vI 0, vV .null, vV .null, vI 0, vV .null, vV .null, vV .null, vI 0, vV .null, vV .null, vV .null, vI 0]) fl_X12_38 ff_X12_11 rfl dX12_init_84 (Nat.le_of_ble_eq_true rfl) (Nat.le_of_ble_eq_true rfl) rfl rfl (Nat.le_of_ble_eq_true rfl) rfl ?_
  refine l_aload_n dX12_init_87 rfl rfl ?_
  refine l_bipush dX12_init_88 rfl ?_
  refine l_newaI (n := 99) (N := 41) ac_I dX12_init_90 rfl ((tw_r_ne (show (99 : Nat) ≠ 88 by decide)).trans (hρ 99 (by decide))) (fun j _ => (hσ 99 (by decide) (by decide) j).trans (tw_ini0 (by decide))) rfl (Nat.le_of_ble_eq_true rfl) (Nat.le_of_ble_eq_true rfl) (Nat.le_of_ble_eq_true rfl) ⟨(Nat.le_of_ble_eq_true rfl), (Nat.le_of_ble_eq_true rfl)⟩ ?_
  refine l_put (fs' := [vR 89, vR 90, vR 91, vR 92, vR 93, vR 94, vR 95, vR 96, vR 97, vI 0, vI 0, vR 98, vI 0, vI 0, vI 0, vI 0, vI 0, vI 0, vI 0, vI 0, vI 0, vI 0, vI 0, vI 0, vI 0, vI 0, vI 0, vI 0, vR 99, vV .null, vI 0, vV .null, vV .null, vV .null, vI 0, vV .null, vV .null, vV .null, vI 0]) fl_X12_41 ff_X12_28 rfl dX12_init_92 (Nat.le_of_ble_eq_true rfl) (Nat.le_of_ble_eq_true rfl) rfl rfl (Nat.le_of_ble_eq_true rfl) rfl ?_
  refine l_aload_n dX12_init_95 rfl rfl ?_
  refine l_bipush dX12_init_96 rfl ?_
  refine l_newaI (n := 100) (N := 41) ac_I dX12_init_98 rfl ((tw_r_ne (show (100 : Nat) ≠ 88 by decide)).trans (hρ 100 (by decide))) (fun j _ => (hσ 100 (by decide) (by decide) j).trans (tw_ini0 (by decide))) rfl (Nat.le_of_ble_eq_true rfl) (Nat.le_of_ble_eq_true rfl) (Nat.le_of_ble_eq_true rfl) ⟨(Nat.le_of_ble_eq_true rfl), (Nat.le_of_ble_eq_true rfl)⟩ ?_
  refine l_put (fs' := [vR 89, vR 90, vR 91, vR 92, vR 93, vR 94, vR 95, vR 96, vR 97, vI 0, vI 0, vR 98, vI 0, vI 0, vI 0, vI 0, vI 0, vI 0, vI 0, vI 0, vI 0, vI 0, vI 0, vI 0, vI 0, vI 0, vI 0, vI 0, vR 99, vR 100, vI 0, vV .null, vV .null, vV .null, vI 0, vV .null, vV .null, vV .null, vI 0]) fl_X12_44 ff_X12_29 rfl dX12_init_100 (Nat.le_of_ble_eq_true rfl) (Nat.le_of_ble_eq_true rfl) rfl rfl (Nat.le_of_ble_eq_true rfl) rfl ?_
  refine l_aload_n dX12_init_103 rfl rfl ?_
  refine l_bipush dX12_init_104 rfl ?_
  refine l_newaI (n := 101) (N := 41) ac_I dX12_init_106 rfl ((tw_r_ne (show (101 : Nat) ≠ 88 by decide)).trans (hρ 101 (by decide))) (fun j _ => (hσ 101 (by decide) (by decide) j).trans (tw_ini0 (by decide))) rfl (Nat.le_of_ble_eq_true rfl) (Nat.le_of_ble_eq_true rfl) (Nat.le_of_ble_eq_true rfl) ⟨(Nat.le_of_ble_eq_true rfl), (Nat.le_of_ble_eq_true rfl)⟩ ?_
  refine l_put (fs' := [vR 89, vR 90, vR 91, vR 92, vR 93, vR 94, vR 95, vR 96, vR 97, vI 0, vI 0, vR 98, vI 0, vI 0, vI 0, vI 0, vI 0, vI 0, vI 0, vI 0, vI 0, vI 0, vI 0, vI 0, vI 0, vI 0, vI 0, vI 0, vR 99, vR 100, vI 0, vR 101, vV .null, vV .null, vI 0, vV .null, vV .null, vV .null, vI 0]) fl_X12_47 ff_X12_31 rfl dX12_init_108 (Nat.le_of_ble_eq_true rfl) (Nat.le_of_ble_eq_true rfl) rfl rfl (Nat.le_of_ble_eq_true rfl) rfl ?_
  refine l_aload_n dX12_init_111 rfl rfl ?_
  refine l_bipush dX12_init_112 rfl ?_
  refine l_newaI (n := 102) (N := 41) ac_I dX12_init_114 rfl ((tw_r_ne (show (102 : Nat) ≠ 88 by decide)).trans (hρ 102 (by decide))) (fun j _ => (hσ 102 (by decide) (by decide) j).trans (tw_ini0 (by decide))) rfl (Nat.le_of_ble_eq_true rfl) (Nat.le_of_ble_eq_true rfl) (Nat.le_of_ble_eq_true rfl) ⟨(Nat.le_of_ble_eq_true rfl), (Nat.le_of_ble_eq_true rfl)⟩ ?_
  refine l_put (fs' := [vR 89, vR 90, vR 91, vR 92, vR 93, vR 94, vR 95, vR 96, vR 97, vI 0, vI 0, vR 98, vI 0, vI 0, vI 0, vI 0, vI 0, vI 0, vI 0, vI 0, vI 0, vI 0, vI 0, vI 0, vI 0, vI 0, vI 0, vI 0, vR 99, vR 100, vI 0, vR 101, vR 102, vV .null, vI 0, vV .null, vV .null, vV .null, vI 0]) fl_X12_50 ff_X12_32 rfl dX12_init_116 (Nat.le_of_ble_eq_true rfl) (Nat.le_of_ble_eq_true rfl) rfl rfl (Nat.le_of_ble_eq_true rfl) rfl ?_
  refine l_aload_n dX12_init_119 rfl rfl ?_
  refine l_bipush dX12_init_120 rfl ?_
  refine l_newaI (n := 103) (N := 40) ac_I dX12_init_122 rfl ((tw_r_ne (show (103 : Nat) ≠ 88 by decide)).trans (hρ 103 (by decide))) (fun j _ => (hσ 103 (by decide) (by decide) j).trans (tw_ini0 (by decide))) rfl (Nat.le_of_ble_eq_true rfl) (Nat.le_of_ble_eq_true rfl) (Nat.le_of_ble_eq_true rfl) ⟨(Nat.le_of_ble_eq_true rfl), (Nat.le_of_ble_eq_true rfl)⟩ ?_
  refine l_put (fs' := [vR 89, vR 90, vR 91, vR 92, vR 93, vR 94, vR 95, vR 96, vR 97, vI 0, vI 0, vR 98, vI 0, vI 0, vI 0, vI 0, vI 0, vI 0, vI 0, vI 0, vI 0, vI 0, vI 0, vI 0, vI 0, vI 0, vI 0, vI 0, vR 99, vR 100, vI 0, vR 101, vR 102, vR 103, vI 0, vV .null, vV .null, vV .null, vI 0]) fl_X12_53 ff_X12_33 rfl dX12_init_124 (Nat.le_of_ble_eq_true rfl) (Nat.le_of_ble_eq_true rfl) rfl rfl (Nat.le_of_ble_eq_true rfl) rfl ?_
  refine l_aload_n dX12_init_127 rfl rfl ?_
  refine l_iconst dX12_init_128 ?_
  refine l_newaI (n := 104) (N := 4) ac_I dX12_init_129 rfl ((tw_r_ne (show (104 : Nat) ≠ 88 by decide)).trans (hρ 104 (by decide))) (fun j _ => (hσ 104 (by decide) (by decide) j).trans (tw_ini0 (by decide))) rfl (Nat.le_of_ble_eq_true rfl) (Nat.le_of_ble_eq_true rfl) (Nat.le_of_ble_eq_true rfl) ⟨(Nat.le_of_ble_eq_true rfl), (Nat.le_of_ble_eq_true rfl)⟩ ?_
  refine l_put (fs' := [vR 89, vR 90, vR 91, vR 92, vR 93, vR 94, vR 95, vR 96, vR 97, vI 0, vI 0, vR 98, vI 0, vI 0, vI 0, vI 0, vI 0, vI 0, vI 0, vI 0, vI 0, vI 0, vI 0, vI 0, vI 0, vI 0, vI 0, vI 0, vR 99, vR 100, vI 0, vR 101, vR 102, vR 103, vI 0, vR 104, vV .null, vV .null, vI 0]) fl_X12_56 ff_X12_35 rfl dX12_init_131 (Nat.le_of_ble_eq_true rfl) (Nat.le_of_ble_eq_true rfl) rfl rfl (Nat.le_of_ble_eq_true rfl) rfl ?_
  refine l_aload_n dX12_init_134 rfl rfl ?_
  refine l_iconst dX12_init_135 ?_
  refine l_newaI (n := 105) (N := 4) ac_I dX12_init_136 rfl ((tw_r_ne (show (105 : Nat) ≠ 88 by decide)).trans (hρ 105 (by decide))) (fun j _ => (hσ 105 (by decide) (by decide) j).trans (tw_ini0 (by decide))) rfl (Nat.le_of_ble_eq_true rfl) (Nat.le_of_ble_eq_true rfl) (Nat.le_of_ble_eq_true rfl) ⟨(Nat.le_of_ble_eq_true rfl), (Nat.le_of_ble_eq_true rfl)⟩ ?_
  refine l_put (fs' := [vR 89, vR 90, vR 91, vR 92, vR 93, vR 94, vR 95, vR 96, vR 97, vI 0, vI 0, vR 98, vI 0, vI 0, vI 0, vI 0, vI 0, vI 0, vI 0, vI 0, vI 0, vI 0, vI 0, vI 0, vI 0, vI 0, vI 0, vI 0, vR 99, vR 100, vI 0, vR 101, vR 102, vR 103, vI 0, vR 104, vR 105, vV .null, vI 0]) fl_X12_59 ff_X12_36 rfl dX12_init_138 (Nat.le_of_ble_eq_true rfl) (Nat.le_of_ble_eq_true rfl) rfl rfl (Nat.le_of_ble_eq_true rfl) rfl ?_
  refine l_aload_n dX12_init_141 rfl rfl ?_
  refine l_sipush dX12_init_142 rfl ?_
  refine l_newaI (n := 106) (N := 160) ac_I dX12_init_145 rfl ((tw_r_ne (show (106 : Nat) ≠ 88 by decide)).trans (hρ 106 (by decide))) (fun j _ => (hσ 106 (by decide) (by decide) j).trans (tw_ini0 (by decide))) rfl (Nat.le_of_ble_eq_true rfl) (Nat.le_of_ble_eq_true rfl) (Nat.le_of_ble_eq_true rfl) ⟨(Nat.le_of_ble_eq_true rfl), (Nat.le_of_ble_eq_true rfl)⟩ ?_
  refine l_put (fs' := [vR 89, vR 90, vR 91, vR 92, vR 93, vR 94, vR 95, vR 96, vR 97, vI 0, vI 0, vR 98, vI 0, vI 0, vI 0, vI 0, vI 0, vI 0, vI 0, vI 0, vI 0, vI 0, vI 0, vI 0, vI 0, vI 0, vI 0, vI 0, vR 99, vR 100, vI 0, vR 101, vR 102, vR 103, vI 0, vR 104, vR 105, vR 106, vI 0]) fl_X12_62 ff_X12_37 rfl dX12_init_147 (Nat.le_of_ble_eq_true rfl) (Nat.le_of_ble_eq_true rfl) rfl rfl (Nat.le_of_ble_eq_true rfl) rfl ?_
  refine l_iconst dX12_init_150 ?_
  refine l_istore_n (i := 1) (ls' := [(0, vR 88), (1, vI 0)]) [1, 0] dX12_init_151 rfl (Nat.le_of_ble_eq_true rfl) rfl rfl ?_
  refine l_iload_n dX12_init_152 rfl rfl ?_
  refine l_iconst dX12_init_153 ?_
  refine l_geF (tgt := 171) dX12_init_154 rfl (by decide) ?_
  refine l_aload_n dX12_init_157 rfl rfl ?_
  refine l_get fl_X12_56 dX12_init_158 (Nat.le_of_ble_eq_true rfl) rfl ?_
  refine l_iload_n dX12_init_161 rfl rfl ?_
  refine l_bipush dX12_init_162 rfl ?_
  refine l_iast (i := 0) (x := -4) (N := 4) dX12_init_164 (Nat.le_of_ble_eq_true rfl) (Nat.le_of_ble_eq_true rfl) ((tw_r_ne (show (104 : Nat) ≠ 88 by decide)).trans (hρ 104 (by decide))) rfl (by decide) (by decide) (Nat.le_of_ble_eq_true rfl) ?_
  refine l_nm (fun σ1 e1 => ?_)
  have hI1 : tw_I0 σ1 := tw_I0_up hI e1 (show (-4 : Int) ≤ -4 ∧ (-4 : Int) ≤ 2 from by decide)
  have hu1 : ∀ c j, c ≠ 104 → σ1 c j = σ c j := fun c j h => tw_ne1 e1 (Or.inl h)
  refine l_iinc (i := 1) (z := 1) (a := 0) (ls' := [(0, vR 88), (1, vI 1)]) [1, 0] dX12_init_165 rfl (Nat.le_of_ble_eq_true rfl) rfl rfl ?_
  refine l_goto (tgt := 152) dX12_init_168 rfl ?_
  refine l_iload_n dX12_init_152 rfl rfl ?_
  refine l_iconst dX12_init_153 ?_
  refine l_geF (tgt := 171) dX12_init_154 rfl (by decide) ?_
  refine l_aload_n dX12_init_157 rfl rfl ?_
  refine l_get fl_X12_56 dX12_init_158 (Nat.le_of_ble_eq_true rfl) rfl ?_
  refine l_iload_n dX12_init_161 rfl rfl ?_
  refine l_bipush dX12_init_162 rfl ?_
  refine l_iast (i := 1) (x := -4) (N := 4) dX12_init_164 (Nat.le_of_ble_eq_true rfl) (Nat.le_of_ble_eq_true rfl) ((tw_r_ne (show (104 : Nat) ≠ 88 by decide)).trans (hρ 104 (by decide))) rfl (by decide) (by decide) (Nat.le_of_ble_eq_true rfl) ?_
  refine l_nm (fun σ2 e2 => ?_)
  have hI2 : tw_I0 σ2 := tw_I0_up hI1 e2 (show (-4 : Int) ≤ -4 ∧ (-4 : Int) ≤ 2 from by decide)
  have hu2 : ∀ c j, c ≠ 104 → σ2 c j = σ1 c j := fun c j h => tw_ne1 e2 (Or.inl h)
  refine l_iinc (i := 1) (z := 1) (a := 1) (ls' := [(0, vR 88), (1, vI 2)]) [1, 0] dX12_init_165 rfl (Nat.le_of_ble_eq_true rfl) rfl rfl ?_
  refine l_goto (tgt := 152) dX12_init_168 rfl ?_
  refine l_iload_n dX12_init_152 rfl rfl ?_
  refine l_iconst dX12_init_153 ?_
  refine l_geF (tgt := 171) dX12_init_154 rfl (by decide) ?_
  refine l_aload_n dX12_init_157 rfl rfl ?_
  refine l_get fl_X12_56 dX12_init_158 (Nat.le_of_ble_eq_true rfl) rfl ?_
  refine l_iload_n dX12_init_161 rfl rfl ?_
  refine l_bipush dX12_init_162 rfl ?_
  refine l_iast (i := 2) (x := -4) (N := 4) dX12_init_164 (Nat.le_of_ble_eq_true rfl) (Nat.le_of_ble_eq_true rfl) ((tw_r_ne (show (104 : Nat) ≠ 88 by decide)).trans (hρ 104 (by decide))) rfl (by decide) (by decide) (Nat.le_of_ble_eq_true rfl) ?_
  refine l_nm (fun σ3 e3 => ?_)
  have hI3 : tw_I0 σ3 := tw_I0_up hI2 e3 (show (-4 : Int) ≤ -4 ∧ (-4 : Int) ≤ 2 from by decide)
  have hu3 : ∀ c j, c ≠ 104 → σ3 c j = σ2 c j := fun c j h => tw_ne1 e3 (Or.inl h)
  refine l_iinc (i := 1) (z := 1) (a := 2) (ls' := [(0, vR 88), (1, vI 3)]) [1, 0] dX12_init_165 rfl (Nat.le_of_ble_eq_true rfl) rfl rfl ?_
  refine l_goto (tgt := 152) dX12_init_168 rfl ?_
  refine l_iload_n dX12_init_152 rfl rfl ?_
  refine l_iconst dX12_init_153 ?_
  refine l_geF (tgt := 171) dX12_init_154 rfl (by decide) ?_
  refine l_aload_n dX12_init_157 rfl rfl ?_
  refine l_get fl_X12_56 dX12_init_158 (Nat.le_of_ble_eq_true rfl) rfl ?_
  refine l_iload_n dX12_init_161 rfl rfl ?_
  refine l_bipush dX12_init_162 rfl ?_
  refine l_iast (i := 3) (x := -4) (N := 4) dX12_init_164 (Nat.le_of_ble_eq_true rfl) (Nat.le_of_ble_eq_true rfl) ((tw_r_ne (show (104 : Nat) ≠ 88 by decide)).trans (hρ 104 (by decide))) rfl (by decide) (by decide) (Nat.le_of_ble_eq_true rfl) ?_
  refine l_nm (fun σ4 e4 => ?_)
  have hI4 : tw_I0 σ4 := tw_I0_up hI3 e4 (show (-4 : Int) ≤ -4 ∧ (-4 : Int) ≤ 2 from by decide)
  have hu4 : ∀ c j, c ≠ 104 → σ4 c j = σ3 c j := fun c j h => tw_ne1 e4 (Or.inl h)
  refine l_iinc (i := 1) (z := 1) (a := 3) (ls' := [(0, vR 88), (1, vI 4)]) [1, 0] dX12_init_165 rfl (Nat.le_of_ble_eq_true rfl) rfl rfl ?_
  refine l_goto (tgt := 152) dX12_init_168 rfl ?_
  refine l_iload_n dX12_init_152 rfl rfl ?_
  refine l_iconst dX12_init_153 ?_
  refine l_geT (tgt := 171) dX12_init_154 rfl (by decide) ?_
  refine l_aload_n dX12_init_171 rfl rfl ?_
  have hu : ∀ c j, c ≠ 104 → σ4 c j = σ c j := fun c j h => (hu4 c j h).trans ((hu3 c j h).trans ((hu2 c j h).trans (hu1 c j h)))
  refine l_fin (hρ 88 (by decide)) ((tw_e_cg (fun j => (hu 88 j (by decide)).trans (hσ 88 (by decide) (by decide) j))).trans rfl) ?_
  have hM : tw_isM (tw_sub G (List.range' 88 19)) := ⟨fun k h1 h2 => List.mem_range'_1.mpr ⟨h1, by omega⟩, hgt.1, hgt.2.2.1⟩
  have z89 : ∀ j, σ4 89 j = 0 := fun j => (hu 89 j (by decide)).trans ((hσ 89 (by decide) (by decide) j).trans (tw_ini0 (by decide)))
  refine l_callV (ks := List.range' 88 19) (o := 88) (k := 0) (sl := [91, 92, 93, 94, 95, 96, 97, 98, 99, 0, 0, 100, 0, 0, 0, 0, 0, 0, 0, 0, 0, 0, 0, 0, 0, 0, 0, 0, 101, 102, 0, 103, 104, 105, 0, 106, 107, 108, 0]) (c0_X12_firstDraft hM σ4 hI4) mv_X12_65 rfl rfl rfl rfl (Nat.le_of_ble_eq_true rfl) (hρ 88 (by decide)) dX12_init_172 ⟨(Nat.le_of_ble_eq_true rfl), (Nat.le_of_ble_eq_true rfl)⟩ ⟨(Nat.le_of_ble_eq_true rfl), (Nat.le_of_ble_eq_true rfl)⟩ (Nat.le_of_ble_eq_true rfl) (by decide) (fun k hk => ⟨by have := List.mem_range'_1.mp hk; omega, hρ k (by have := List.mem_range'_1.mp hk; omega)⟩) rfl (Nat.le_of_ble_eq_true rfl) rfl (fun z τ hq => ⟨hq.1, fun k hk j => hq.2.2.1 k j (fun h => hk (List.mem_range'_1.mpr (by omega)))⟩) (fun τf hqτf => ?_)
  refine l_aload_n dX12_init_175 rfl rfl ?_
  obtain ⟨-, hIf, hFf, hDf, hDz⟩ := hqτf
  refine l_callV (ks := List.range' 88 19) (o := 88) (k := 0) (sl := [91, 92, 93, 94, 95, 96, 97, 98, 99, 0, 0, 100, 0, 0, 0, 0, 0, 0, 0, 0, 0, 0, 0, 0, 0, 0, 0, 0, 101, 102, 0, 103, 104, 105, 0, 106, 107, 108, 0]) (c0_X12_keepDraft hM τf hIf hDf (by rw [hFf 89 193 (by omega), hFf 89 195 (by omega), z89, z89]; decide) (by rw [hFf 89 293 (by omega), hFf 89 295 (by omega), z89, z89]; decide)) mv_X12_68 rfl rfl rfl rfl (Nat.le_of_ble_eq_true rfl) (hρ 88 (by decide)) dX12_init_176 ⟨(Nat.le_of_ble_eq_true rfl), (Nat.le_of_ble_eq_true rfl)⟩ ⟨(Nat.le_of_ble_eq_true rfl), (Nat.le_of_ble_eq_true rfl)⟩ (Nat.le_of_ble_eq_true rfl) (by decide) (fun k hk => ⟨by have := List.mem_range'_1.mp hk; omega, hρ k (by have := List.mem_range'_1.mp hk; omega)⟩) rfl (Nat.le_of_ble_eq_true rfl) rfl (fun z τ hq => ⟨hq.1, fun k hk j => hq.2.2.1 k j (fun h => hk (List.mem_range'_1.mpr (by omega)))⟩) (fun τk hqτk => ?_)
  obtain ⟨-, hIk, hFk, hmI, hWk, hk0, hk1, hn93, hn94, hn95, hn96, kd0, kd1, kd2, kd3, kd4⟩ := hqτk
  have hkf : ∀ c j, (c = 88 ∧ j ≠ 9 ∧ j ≠ 10) ∨ 98 ≤ c → τk c j = σ4 c j := fun c j h => (hFk c j (by omega)).trans (hFf c j (by omega))
  refine l_vret dX12_init_179 rfl rfl (Nat.le_of_ble_eq_true rfl) (Nat.le_of_ble_eq_true rfl) ⟨hIk, hWk, hmI, fun c j h => (hFk c j (by omega)).trans ((hFf c j (by omega)).trans (hu c j (by omega))), fun c j h => (hkf c j (by omega)).trans ((hu c j (by omega)).trans ((hσ c (by omega) (by omega) j).trans (tw_ini0 (by omega)))), ⟨hk0, hk1⟩, ⟨hn93, hn94, hn95, hn96⟩, fun j h => (hFk 89 j (by omega)).trans ((hFf 89 j (by omega)).trans (z89 j)), ⟨kd0.trans (congrArg pwB hDz), fun j hj => (kd1 j hj).trans ((drM_k hj).symm.trans ((congrFun hDz (200 + j)).trans (D0_k hj))), kd2, kd3.trans ((drM_r (j := 5) (by decide)).symm.trans ((congrFun hDz (100 + 5)).trans ((D0_r (j := 5) (by decide)).trans (by decide +kernel)))), kd4.trans ((drM_r (j := 6) (by decide)).symm.trans ((congrFun hDz (100 + 6)).trans ((D0_r (j := 6) (by decide)).trans (by decide +kernel))))⟩, fun j hj => (hkf 104 j (by omega)).trans ?_⟩
  rcases (show j = 0 ∨ j = 1 ∨ j = 2 ∨ j = 3 by omega) with rfl | rfl | rfl | rfl
  · exact (tw_ne1 e4 (Or.inr (by decide))).trans ((tw_ne1 e3 (Or.inr (by decide))).trans ((tw_ne1 e2 (Or.inr (by decide))).trans (tw_eq1 e1)))
  · exact (tw_ne1 e4 (Or.inr (by decide))).trans ((tw_ne1 e3 (Or.inr (by decide))).trans (tw_eq1 e2))
  · exact (tw_ne1 e4 (Or.inr (by decide))).trans (tw_eq1 e3)
  · exact tw_eq1 e4
