theorem dX2_init_0 : decode cX2_init 0 = .ok (.aload_n 0, 1) := by decide +kernel
theorem dX2_init_1 : decode cX2_init 1 = .ok (.invokespecial 3, 3) := by decide +kernel
theorem dX2_init_4 : decode cX2_init 4 = .ok (.aload_n 0, 1) := by decide +kernel
theorem dX2_init_5 : decode cX2_init 5 = .ok (.bipush 30, 2) := by decide +kernel
theorem dX2_init_7 : decode cX2_init 7 = .ok (.newarray .int, 2) := by decide +kernel
theorem dX2_init_9 : decode cX2_init 9 = .ok (.putfield 9, 3) := by decide +kernel
theorem dX2_init_12 : decode cX2_init 12 = .ok (.aload_n 0, 1) := by decide +kernel
theorem dX2_init_13 : decode cX2_init 13 = .ok (.bipush 30, 2) := by decide +kernel
theorem dX2_init_15 : decode cX2_init 15 = .ok (.newarray .int, 2) := by decide +kernel
theorem dX2_init_17 : decode cX2_init 17 = .ok (.putfield 15, 3) := by decide +kernel
theorem dX2_init_20 : decode cX2_init 20 = .ok (.aload_n 0, 1) := by decide +kernel
theorem dX2_init_21 : decode cX2_init 21 = .ok (.bipush 30, 2) := by decide +kernel
theorem dX2_init_23 : decode cX2_init 23 = .ok (.newarray .int, 2) := by decide +kernel
theorem dX2_init_25 : decode cX2_init 25 = .ok (.putfield 18, 3) := by decide +kernel
theorem dX2_init_28 : decode cX2_init 28 = .ok (.aload_n 0, 1) := by decide +kernel
theorem dX2_init_29 : decode cX2_init 29 = .ok (.bipush 30, 2) := by decide +kernel
theorem dX2_init_31 : decode cX2_init 31 = .ok (.newarray .int, 2) := by decide +kernel
theorem dX2_init_33 : decode cX2_init 33 = .ok (.putfield 21, 3) := by decide +kernel
theorem dX2_init_36 : decode cX2_init 36 = .ok (.aload_n 0, 1) := by decide +kernel
theorem dX2_init_37 : decode cX2_init 37 = .ok (.bipush 30, 2) := by decide +kernel
theorem dX2_init_39 : decode cX2_init 39 = .ok (.newarray .int, 2) := by decide +kernel
theorem dX2_init_41 : decode cX2_init 41 = .ok (.putfield 24, 3) := by decide +kernel
theorem dX2_init_44 : decode cX2_init 44 = .ok (.aload_n 0, 1) := by decide +kernel
theorem dX2_init_45 : decode cX2_init 45 = .ok (.sipush 200, 3) := by decide +kernel
theorem dX2_init_48 : decode cX2_init 48 = .ok (.newarray .int, 2) := by decide +kernel
theorem dX2_init_50 : decode cX2_init 50 = .ok (.putfield 27, 3) := by decide +kernel
theorem dX2_init_53 : decode cX2_init 53 = .ok (.aload_n 0, 1) := by decide +kernel
theorem dX2_init_54 : decode cX2_init 54 = .ok (.sipush 200, 3) := by decide +kernel
theorem dX2_init_57 : decode cX2_init 57 = .ok (.newarray .int, 2) := by decide +kernel
theorem dX2_init_59 : decode cX2_init 59 = .ok (.putfield 30, 3) := by decide +kernel
theorem dX2_init_62 : decode cX2_init 62 = .ok (.aload_n 0, 1) := by decide +kernel
theorem dX2_init_63 : decode cX2_init 63 = .ok (.sipush 200, 3) := by decide +kernel
theorem dX2_init_66 : decode cX2_init 66 = .ok (.newarray .int, 2) := by decide +kernel
theorem dX2_init_68 : decode cX2_init 68 = .ok (.putfield 33, 3) := by decide +kernel
theorem dX2_init_71 : decode cX2_init 71 = .ok (.aload_n 0, 1) := by decide +kernel
theorem dX2_init_72 : decode cX2_init 72 = .ok (.sipush 200, 3) := by decide +kernel
theorem dX2_init_75 : decode cX2_init 75 = .ok (.newarray .int, 2) := by decide +kernel
theorem dX2_init_77 : decode cX2_init 77 = .ok (.putfield 36, 3) := by decide +kernel
theorem dX2_init_80 : decode cX2_init 80 = .ok (.aload_n 0, 1) := by decide +kernel
theorem dX2_init_81 : decode cX2_init 81 = .ok (.sipush 200, 3) := by decide +kernel
theorem dX2_init_84 : decode cX2_init 84 = .ok (.newarray .int, 2) := by decide +kernel
theorem dX2_init_86 : decode cX2_init 86 = .ok (.putfield 39, 3) := by decide +kernel
theorem dX2_init_89 : decode cX2_init 89 = .ok (.return_, 1) := by decide +kernel
theorem dX9_init_0 : decode cX9_init 0 = .ok (.aload_n 0, 1) := by decide +kernel
theorem dX9_init_1 : decode cX9_init 1 = .ok (.invokespecial 3, 3) := by decide +kernel
theorem dX9_init_4 : decode cX9_init 4 = .ok (.aload_n 0, 1) := by decide +kernel
theorem dX9_init_5 : decode cX9_init 5 = .ok (.sipush 500, 3) := by decide +kernel
theorem dX9_init_8 : decode cX9_init 8 = .ok (.newarray .int, 2) := by decide +kernel
theorem dX9_init_10 : decode cX9_init 10 = .ok (.putfield 9, 3) := by decide +kernel
theorem dX9_init_13 : decode cX9_init 13 = .ok (.aload_n 0, 1) := by decide +kernel
theorem dX9_init_14 : decode cX9_init 14 = .ok (.sipush 501, 3) := by decide +kernel
theorem dX9_init_17 : decode cX9_init 17 = .ok (.newarray .int, 2) := by decide +kernel
theorem dX9_init_19 : decode cX9_init 19 = .ok (.putfield 15, 3) := by decide +kernel
theorem dX9_init_22 : decode cX9_init 22 = .ok (.aload_n 0, 1) := by decide +kernel
theorem dX9_init_23 : decode cX9_init 23 = .ok (.sipush 501, 3) := by decide +kernel
theorem dX9_init_26 : decode cX9_init 26 = .ok (.newarray .int, 2) := by decide +kernel
theorem dX9_init_28 : decode cX9_init 28 = .ok (.putfield 18, 3) := by decide +kernel
theorem dX9_init_31 : decode cX9_init 31 = .ok (.aload_n 0, 1) := by decide +kernel
theorem dX9_init_32 : decode cX9_init 32 = .ok (.sipush 501, 3) := by decide +kernel
theorem dX9_init_35 : decode cX9_init 35 = .ok (.newarray .int, 2) := by decide +kernel
theorem dX9_init_37 : decode cX9_init 37 = .ok (.putfield 21, 3) := by decide +kernel
theorem dX9_init_40 : decode cX9_init 40 = .ok (.aload_n 0, 1) := by decide +kernel
theorem dX9_init_41 : decode cX9_init 41 = .ok (.sipush 500, 3) := by decide +kernel
theorem dX9_init_44 : decode cX9_init 44 = .ok (.newarray .int, 2) := by decide +kernel
theorem dX9_init_46 : decode cX9_init 46 = .ok (.putfield 24, 3) := by decide +kernel
theorem dX9_init_49 : decode cX9_init 49 = .ok (.aload_n 0, 1) := by decide +kernel
theorem dX9_init_50 : decode cX9_init 50 = .ok (.bipush 24, 2) := by decide +kernel
theorem dX9_init_52 : decode cX9_init 52 = .ok (.newarray .int, 2) := by decide +kernel
theorem dX9_init_54 : decode cX9_init 54 = .ok (.putfield 27, 3) := by decide +kernel
theorem dX9_init_57 : decode cX9_init 57 = .ok (.aload_n 0, 1) := by decide +kernel
theorem dX9_init_58 : decode cX9_init 58 = .ok (.bipush 24, 2) := by decide +kernel
theorem dX9_init_60 : decode cX9_init 60 = .ok (.newarray .int, 2) := by decide +kernel
theorem dX9_init_62 : decode cX9_init 62 = .ok (.putfield 30, 3) := by decide +kernel
theorem dX9_init_65 : decode cX9_init 65 = .ok (.aload_n 0, 1) := by decide +kernel
theorem dX9_init_66 : decode cX9_init 66 = .ok (.bipush 24, 2) := by decide +kernel
theorem dX9_init_68 : decode cX9_init 68 = .ok (.newarray .int, 2) := by decide +kernel
theorem dX9_init_70 : decode cX9_init 70 = .ok (.putfield 33, 3) := by decide +kernel
theorem dX9_init_73 : decode cX9_init 73 = .ok (.return_, 1) := by decide +kernel
theorem dX5_init_0 : decode cX5_init 0 = .ok (.aload_n 0, 1) := by decide +kernel
theorem dX5_init_1 : decode cX5_init 1 = .ok (.invokespecial 3, 3) := by decide +kernel
theorem dX5_init_4 : decode cX5_init 4 = .ok (.aload_n 0, 1) := by decide +kernel
theorem dX5_init_5 : decode cX5_init 5 = .ok (.bipush 7, 2) := by decide +kernel
theorem dX5_init_7 : decode cX5_init 7 = .ok (.newarray .int, 2) := by decide +kernel
theorem dX5_init_9 : decode cX5_init 9 = .ok (.putfield 9, 3) := by decide +kernel
theorem dX5_init_12 : decode cX5_init 12 = .ok (.aload_n 0, 1) := by decide +kernel
theorem dX5_init_13 : decode cX5_init 13 = .ok (.bipush 64, 2) := by decide +kernel
theorem dX5_init_15 : decode cX5_init 15 = .ok (.newarray .int, 2) := by decide +kernel
theorem dX5_init_17 : decode cX5_init 17 = .ok (.putfield 15, 3) := by decide +kernel
theorem dX5_init_20 : decode cX5_init 20 = .ok (.return_, 1) := by decide +kernel
theorem dX6_init_0 : decode cX6_init 0 = .ok (.aload_n 0, 1) := by decide +kernel
theorem dX6_init_1 : decode cX6_init 1 = .ok (.invokespecial 3, 3) := by decide +kernel
theorem dX6_init_4 : decode cX6_init 4 = .ok (.aload_n 0, 1) := by decide +kernel
theorem dX6_init_5 : decode cX6_init 5 = .ok (.bipush 12, 2) := by decide +kernel
theorem dX6_init_7 : decode cX6_init 7 = .ok (.anewarray 9, 3) := by decide +kernel
theorem dX6_init_10 : decode cX6_init 10 = .ok (.putfield 11, 3) := by decide +kernel
theorem dX6_init_13 : decode cX6_init 13 = .ok (.aload_n 0, 1) := by decide +kernel
theorem dX6_init_14 : decode cX6_init 14 = .ok (.new 17, 3) := by decide +kernel
theorem dX6_init_17 : decode cX6_init 17 = .ok (.dup, 1) := by decide +kernel
set_option maxRecDepth 20000 in
theorem ggX6_init_X5_init : GoodIn wsX6_init wsX5_init := goodIn_r _ [11, 12, 2, 3, 13, 14, 15, 19, 20] rfl (by decide +kernel)
set_option maxRecDepth 20000 in
theorem gX6_init_X5_init_n19 : GoodIn wsX6_init (wsX5_init) := ggX6_init_X5_init
theorem dX6_init_18 : decode cX6_init 18 = .ok (.invokespecial 19, 3) := by decide +kernel
theorem dX6_init_21 : decode cX6_init 21 = .ok (.putfield 20, 3) := by decide +kernel
theorem dX6_init_24 : decode cX6_init 24 = .ok (.return_, 1) := by decide +kernel
theorem dX0_init_0 : decode cX0_init 0 = .ok (.aload_n 0, 1) := by decide +kernel
theorem dX0_init_1 : decode cX0_init 1 = .ok (.invokespecial 3, 3) := by decide +kernel
theorem dX0_init_4 : decode cX0_init 4 = .ok (.aload_n 0, 1) := by decide +kernel
theorem dX0_init_5 : decode cX0_init 5 = .ok (.sipush 720, 3) := by decide +kernel
theorem dX0_init_8 : decode cX0_init 8 = .ok (.newarray .int, 2) := by decide +kernel
theorem dX0_init_10 : decode cX0_init 10 = .ok (.putfield 9, 3) := by decide +kernel
theorem dX0_init_13 : decode cX0_init 13 = .ok (.aload_n 0, 1) := by decide +kernel
theorem dX0_init_14 : decode cX0_init 14 = .ok (.sipush 512, 3) := by decide +kernel
theorem dX0_init_17 : decode cX0_init 17 = .ok (.newarray .int, 2) := by decide +kernel
theorem dX0_init_19 : decode cX0_init 19 = .ok (.putfield 15, 3) := by decide +kernel
theorem dX0_init_22 : decode cX0_init 22 = .ok (.aload_n 0, 1) := by decide +kernel
theorem dX0_init_23 : decode cX0_init 23 = .ok (.sipush 512, 3) := by decide +kernel
theorem dX0_init_26 : decode cX0_init 26 = .ok (.newarray .int, 2) := by decide +kernel
theorem dX0_init_28 : decode cX0_init 28 = .ok (.putfield 18, 3) := by decide +kernel
theorem dX0_init_31 : decode cX0_init 31 = .ok (.aload_n 0, 1) := by decide +kernel
theorem dX0_init_32 : decode cX0_init 32 = .ok (.getfield 9, 3) := by decide +kernel
theorem dX0_init_35 : decode cX0_init 35 = .ok (.iconst (-1), 1) := by decide +kernel
set_option maxRecDepth 20000 in
theorem ggX0_init_J7_fill_53178 : GoodIn wsX0_init wsJ7_fill_53178 := goodIn_r _ [11] rfl (by decide +kernel)
set_option maxRecDepth 20000 in
theorem gX0_init_J7_fill_53178 : GoodIn wsX0_init (va_wsS RX0 21 yJ7_fill_53178 wsJ7_fill_53178) := goodIn_app (goodIn_r _ [8, 9, 10] rfl (by decide +kernel)) ggX0_init_J7_fill_53178
theorem dX0_init_36 : decode cX0_init 36 = .ok (.invokestatic 21, 3) := by decide +kernel
theorem dX0_init_39 : decode cX0_init 39 = .ok (.return_, 1) := by decide +kernel
theorem dX8_init_0 : decode cX8_init 0 = .ok (.aload_n 0, 1) := by decide +kernel
theorem dX8_init_1 : decode cX8_init 1 = .ok (.invokespecial 3, 3) := by decide +kernel
theorem dX8_init_4 : decode cX8_init 4 = .ok (.aload_n 0, 1) := by decide +kernel
theorem dX8_init_5 : decode cX8_init 5 = .ok (.sipush 300, 3) := by decide +kernel
theorem dX8_init_8 : decode cX8_init 8 = .ok (.newarray .int, 2) := by decide +kernel
theorem dX8_init_10 : decode cX8_init 10 = .ok (.putfield 9, 3) := by decide +kernel
theorem dX8_init_13 : decode cX8_init 13 = .ok (.aload_n 0, 1) := by decide +kernel
theorem dX8_init_14 : decode cX8_init 14 = .ok (.sipush 300, 3) := by decide +kernel
theorem dX8_init_17 : decode cX8_init 17 = .ok (.newarray .int, 2) := by decide +kernel
theorem dX8_init_19 : decode cX8_init 19 = .ok (.putfield 15, 3) := by decide +kernel
theorem dX8_init_22 : decode cX8_init 22 = .ok (.aload_n 0, 1) := by decide +kernel
theorem dX8_init_23 : decode cX8_init 23 = .ok (.sipush 300, 3) := by decide +kernel
theorem dX8_init_26 : decode cX8_init 26 = .ok (.newarray .int, 2) := by decide +kernel
theorem dX8_init_28 : decode cX8_init 28 = .ok (.putfield 18, 3) := by decide +kernel
theorem dX8_init_31 : decode cX8_init 31 = .ok (.aload_n 0, 1) := by decide +kernel
theorem dX8_init_32 : decode cX8_init 32 = .ok (.sipush 300, 3) := by decide +kernel
theorem dX8_init_35 : decode cX8_init 35 = .ok (.newarray .int, 2) := by decide +kernel
theorem dX8_init_37 : decode cX8_init 37 = .ok (.putfield 21, 3) := by decide +kernel
theorem dX8_init_40 : decode cX8_init 40 = .ok (.aload_n 0, 1) := by decide +kernel
theorem dX8_init_41 : decode cX8_init 41 = .ok (.sipush 300, 3) := by decide +kernel
theorem dX8_init_44 : decode cX8_init 44 = .ok (.newarray .int, 2) := by decide +kernel
theorem dX8_init_46 : decode cX8_init 46 = .ok (.putfield 24, 3) := by decide +kernel
theorem dX8_init_49 : decode cX8_init 49 = .ok (.aload_n 0, 1) := by decide +kernel
theorem dX8_init_50 : decode cX8_init 50 = .ok (.sipush 300, 3) := by decide +kernel
theorem dX8_init_53 : decode cX8_init 53 = .ok (.newarray .int, 2) := by decide +kernel
theorem dX8_init_55 : decode cX8_init 55 = .ok (.putfield 27, 3) := by decide +kernel
theorem dX8_init_58 : decode cX8_init 58 = .ok (.aload_n 0, 1) := by decide +kernel
theorem dX8_init_59 : decode cX8_init 59 = .ok (.sipush 300, 3) := by decide +kernel
theorem dX8_init_62 : decode cX8_init 62 = .ok (.newarray .int, 2) := by decide +kernel
theorem dX8_init_64 : decode cX8_init 64 = .ok (.putfield 30, 3) := by decide +kernel
theorem dX8_init_67 : decode cX8_init 67 = .ok (.aload_n 0, 1) := by decide +kernel
theorem dX8_init_68 : decode cX8_init 68 = .ok (.sipush 300, 3) := by decide +kernel
theorem dX8_init_71 : decode cX8_init 71 = .ok (.newarray .int, 2) := by decide +kernel
theorem dX8_init_73 : decode cX8_init 73 = .ok (.putfield 33, 3) := by decide +kernel
theorem dX8_init_76 : decode cX8_init 76 = .ok (.return_, 1) := by decide +kernel
theorem dX4_init_0 : decode cX4_init 0 = .ok (.aload_n 0, 1) := by decide +kernel
theorem dX4_init_1 : decode cX4_init 1 = .ok (.invokespecial 3, 3) := by decide +kernel
theorem dX4_init_4 : decode cX4_init 4 = .ok (.aload_n 0, 1) := by decide +kernel
theorem dX4_init_5 : decode cX4_init 5 = .ok (.iconst 4, 1) := by decide +kernel
theorem dX4_init_6 : decode cX4_init 6 = .ok (.newarray .int, 2) := by decide +kernel
theorem dX4_init_8 : decode cX4_init 8 = .ok (.putfield 9, 3) := by decide +kernel
theorem dX4_init_11 : decode cX4_init 11 = .ok (.aload_n 0, 1) := by decide +kernel
theorem dX4_init_12 : decode cX4_init 12 = .ok (.bipush 10, 2) := by decide +kernel
theorem dX4_init_14 : decode cX4_init 14 = .ok (.newarray .int, 2) := by decide +kernel
theorem dX4_init_16 : decode cX4_init 16 = .ok (.putfield 15, 3) := by decide +kernel
theorem dX4_init_19 : decode cX4_init 19 = .ok (.aload_n 0, 1) := by decide +kernel
theorem dX4_init_20 : decode cX4_init 20 = .ok (.iconst 4, 1) := by decide +kernel
theorem dX4_init_21 : decode cX4_init 21 = .ok (.bipush 10, 2) := by decide +kernel
theorem dX4_init_23 : decode cX4_init 23 = .ok (.multianewarray 18 2, 4) := by decide +kernel
theorem dX4_init_27 : decode cX4_init 27 = .ok (.putfield 20, 3) := by decide +kernel
theorem dX4_init_30 : decode cX4_init 30 = .ok (.aload_n 0, 1) := by decide +kernel
theorem dX4_init_31 : decode cX4_init 31 = .ok (.iconst 4, 1) := by decide +kernel
theorem dX4_init_32 : decode cX4_init 32 = .ok (.bipush 10, 2) := by decide +kernel
theorem dX4_init_34 : decode cX4_init 34 = .ok (.multianewarray 18 2, 4) := by decide +kernel
theorem dX4_init_38 : decode cX4_init 38 = .ok (.putfield 23, 3) := by decide +kernel
theorem dX4_init_41 : decode cX4_init 41 = .ok (.aload_n 0, 1) := by decide +kernel
theorem dX4_init_42 : decode cX4_init 42 = .ok (.iconst 4, 1) := by decide +kernel
theorem dX4_init_43 : decode cX4_init 43 = .ok (.newarray .int, 2) := by decide +kernel
theorem dX4_init_45 : decode cX4_init 45 = .ok (.putfield 26, 3) := by decide +kernel
theorem dX4_init_48 : decode cX4_init 48 = .ok (.aload_n 0, 1) := by decide +kernel
theorem dX4_init_49 : decode cX4_init 49 = .ok (.bipush 10, 2) := by decide +kernel
theorem dX4_init_51 : decode cX4_init 51 = .ok (.newarray .int, 2) := by decide +kernel
theorem dX4_init_53 : decode cX4_init 53 = .ok (.putfield 29, 3) := by decide +kernel
theorem dX4_init_56 : decode cX4_init 56 = .ok (.aload_n 0, 1) := by decide +kernel
theorem dX4_init_57 : decode cX4_init 57 = .ok (.iconst 4, 1) := by decide +kernel
theorem dX4_init_58 : decode cX4_init 58 = .ok (.newarray .int, 2) := by decide +kernel
theorem dX4_init_60 : decode cX4_init 60 = .ok (.putfield 32, 3) := by decide +kernel
theorem dX4_init_63 : decode cX4_init 63 = .ok (.aload_n 0, 1) := by decide +kernel
theorem dX4_init_64 : decode cX4_init 64 = .ok (.bipush 10, 2) := by decide +kernel
theorem dX4_init_66 : decode cX4_init 66 = .ok (.newarray .int, 2) := by decide +kernel
theorem dX4_init_68 : decode cX4_init 68 = .ok (.putfield 35, 3) := by decide +kernel
theorem dX4_init_71 : decode cX4_init 71 = .ok (.aload_n 0, 1) := by decide +kernel
theorem dX4_init_72 : decode cX4_init 72 = .ok (.bipush 10, 2) := by decide +kernel
theorem dX4_init_74 : decode cX4_init 74 = .ok (.newarray .int, 2) := by decide +kernel
theorem dX4_init_76 : decode cX4_init 76 = .ok (.putfield 38, 3) := by decide +kernel
theorem dX4_init_79 : decode cX4_init 79 = .ok (.aload_n 0, 1) := by decide +kernel
theorem dX4_init_80 : decode cX4_init 80 = .ok (.iconst 4, 1) := by decide +kernel
theorem dX4_init_81 : decode cX4_init 81 = .ok (.newarray .int, 2) := by decide +kernel
theorem dX4_init_83 : decode cX4_init 83 = .ok (.putfield 41, 3) := by decide +kernel
theorem dX4_init_86 : decode cX4_init 86 = .ok (.return_, 1) := by decide +kernel
theorem dX3_init_0 : decode cX3_init 0 = .ok (.aload_n 0, 1) := by decide +kernel
theorem dX3_init_1 : decode cX3_init 1 = .ok (.invokespecial 3, 3) := by decide +kernel
theorem dX3_init_4 : decode cX3_init 4 = .ok (.aload_n 0, 1) := by decide +kernel
theorem dX3_init_5 : decode cX3_init 5 = .ok (.bipush 60, 2) := by decide +kernel
theorem dX3_init_7 : decode cX3_init 7 = .ok (.newarray .int, 2) := by decide +kernel
theorem dX3_init_9 : decode cX3_init 9 = .ok (.putfield 9, 3) := by decide +kernel
theorem dX3_init_12 : decode cX3_init 12 = .ok (.aload_n 0, 1) := by decide +kernel
theorem dX3_init_13 : decode cX3_init 13 = .ok (.bipush 60, 2) := by decide +kernel
theorem dX3_init_15 : decode cX3_init 15 = .ok (.newarray .int, 2) := by decide +kernel
theorem dX3_init_17 : decode cX3_init 17 = .ok (.putfield 15, 3) := by decide +kernel
theorem dX3_init_20 : decode cX3_init 20 = .ok (.aload_n 0, 1) := by decide +kernel
theorem dX3_init_21 : decode cX3_init 21 = .ok (.bipush 60, 2) := by decide +kernel
theorem dX3_init_23 : decode cX3_init 23 = .ok (.newarray .int, 2) := by decide +kernel
theorem dX3_init_25 : decode cX3_init 25 = .ok (.putfield 18, 3) := by decide +kernel
theorem dX3_init_28 : decode cX3_init 28 = .ok (.aload_n 0, 1) := by decide +kernel
theorem dX3_init_29 : decode cX3_init 29 = .ok (.bipush 60, 2) := by decide +kernel
theorem dX3_init_31 : decode cX3_init 31 = .ok (.newarray .int, 2) := by decide +kernel
theorem dX3_init_33 : decode cX3_init 33 = .ok (.putfield 21, 3) := by decide +kernel
theorem dX3_init_36 : decode cX3_init 36 = .ok (.aload_n 0, 1) := by decide +kernel
theorem dX3_init_37 : decode cX3_init 37 = .ok (.bipush 60, 2) := by decide +kernel
theorem dX3_init_39 : decode cX3_init 39 = .ok (.newarray .int, 2) := by decide +kernel
theorem dX3_init_41 : decode cX3_init 41 = .ok (.putfield 24, 3) := by decide +kernel
theorem dX3_init_44 : decode cX3_init 44 = .ok (.aload_n 0, 1) := by decide +kernel
theorem dX3_init_45 : decode cX3_init 45 = .ok (.bipush 60, 2) := by decide +kernel
theorem dX3_init_47 : decode cX3_init 47 = .ok (.newarray .int, 2) := by decide +kernel
theorem dX3_init_49 : decode cX3_init 49 = .ok (.putfield 27, 3) := by decide +kernel
theorem dX3_init_52 : decode cX3_init 52 = .ok (.aload_n 0, 1) := by decide +kernel
theorem dX3_init_53 : decode cX3_init 53 = .ok (.bipush 60, 2) := by decide +kernel
theorem dX3_init_55 : decode cX3_init 55 = .ok (.newarray .int, 2) := by decide +kernel
theorem dX3_init_57 : decode cX3_init 57 = .ok (.putfield 30, 3) := by decide +kernel
theorem dX3_init_60 : decode cX3_init 60 = .ok (.aload_n 0, 1) := by decide +kernel
theorem dX3_init_61 : decode cX3_init 61 = .ok (.bipush 60, 2) := by decide +kernel
theorem dX3_init_63 : decode cX3_init 63 = .ok (.newarray .int, 2) := by decide +kernel
theorem dX3_init_65 : decode cX3_init 65 = .ok (.putfield 33, 3) := by decide +kernel
theorem dX3_init_68 : decode cX3_init 68 = .ok (.aload_n 0, 1) := by decide +kernel
theorem dX3_init_69 : decode cX3_init 69 = .ok (.bipush 60, 2) := by decide +kernel
theorem dX3_init_71 : decode cX3_init 71 = .ok (.newarray .int, 2) := by decide +kernel
theorem dX3_init_73 : decode cX3_init 73 = .ok (.putfield 36, 3) := by decide +kernel
theorem dX3_init_76 : decode cX3_init 76 = .ok (.aload_n 0, 1) := by decide +kernel
theorem dX3_init_77 : decode cX3_init 77 = .ok (.bipush 12, 2) := by decide +kernel
theorem dX3_init_79 : decode cX3_init 79 = .ok (.newarray .int, 2) := by decide +kernel
theorem dX3_init_81 : decode cX3_init 81 = .ok (.putfield 39, 3) := by decide +kernel
theorem dX3_init_84 : decode cX3_init 84 = .ok (.aload_n 0, 1) := by decide +kernel
theorem dX3_init_85 : decode cX3_init 85 = .ok (.bipush 12, 2) := by decide +kernel
theorem dX3_init_87 : decode cX3_init 87 = .ok (.newarray .int, 2) := by decide +kernel
theorem dX3_init_89 : decode cX3_init 89 = .ok (.putfield 42, 3) := by decide +kernel
theorem dX3_init_92 : decode cX3_init 92 = .ok (.return_, 1) := by decide +kernel
theorem dX1_init_0 : decode cX1_init 0 = .ok (.aload_n 0, 1) := by decide +kernel
theorem dX1_init_1 : decode cX1_init 1 = .ok (.invokespecial 3, 3) := by decide +kernel
theorem dX1_init_4 : decode cX1_init 4 = .ok (.aload_n 0, 1) := by decide +kernel
theorem dX1_init_5 : decode cX1_init 5 = .ok (.bipush 30, 2) := by decide +kernel
theorem dX1_init_7 : decode cX1_init 7 = .ok (.newarray .int, 2) := by decide +kernel
theorem dX1_init_9 : decode cX1_init 9 = .ok (.putfield 9, 3) := by decide +kernel
theorem dX1_init_12 : decode cX1_init 12 = .ok (.aload_n 0, 1) := by decide +kernel
theorem dX1_init_13 : decode cX1_init 13 = .ok (.bipush 30, 2) := by decide +kernel
theorem dX1_init_15 : decode cX1_init 15 = .ok (.newarray .int, 2) := by decide +kernel
theorem dX1_init_17 : decode cX1_init 17 = .ok (.putfield 15, 3) := by decide +kernel
theorem dX1_init_20 : decode cX1_init 20 = .ok (.return_, 1) := by decide +kernel
theorem dX11_init_0 : decode cX11_init 0 = .ok (.aload_n 0, 1) := by decide +kernel
theorem dX11_init_1 : decode cX11_init 1 = .ok (.invokespecial 1, 3) := by decide +kernel
theorem dX11_init_4 : decode cX11_init 4 = .ok (.aload_n 0, 1) := by decide +kernel
theorem dX11_init_5 : decode cX11_init 5 = .ok (.iconst (-1), 1) := by decide +kernel
theorem dX11_init_6 : decode cX11_init 6 = .ok (.putfield 9, 3) := by decide +kernel
theorem dX11_init_9 : decode cX11_init 9 = .ok (.aload_n 0, 1) := by decide +kernel
theorem dX11_init_10 : decode cX11_init 10 = .ok (.new 13, 3) := by decide +kernel
theorem dX11_init_13 : decode cX11_init 13 = .ok (.dup, 1) := by decide +kernel
set_option maxRecDepth 20000 in
theorem ggX11_init_X2_init : GoodIn wsX11_init wsX2_init := goodIn_r _ [42, 43, 2, 3, 27, 44, 45, 46, 47, 48, 49, 50, 51, 52, 53, 148, 149, 150, 151, 152, 153, 154, 155, 156, 157, 158, 159] rfl (by decide +kernel)
set_option maxRecDepth 20000 in
theorem gX11_init_X2_init_n15 : GoodIn wsX11_init (wsX2_init) := ggX11_init_X2_init
theorem dX11_init_14 : decode cX11_init 14 = .ok (.invokespecial 15, 3) := by decide +kernel
theorem dX11_init_17 : decode cX11_init 17 = .ok (.putfield 16, 3) := by decide +kernel
theorem dX11_init_20 : decode cX11_init 20 = .ok (.aload_n 0, 1) := by decide +kernel
theorem dX11_init_21 : decode cX11_init 21 = .ok (.new 20, 3) := by decide +kernel
theorem dX11_init_24 : decode cX11_init 24 = .ok (.dup, 1) := by decide +kernel
set_option maxRecDepth 20000 in
theorem ggX11_init_X9_init : GoodIn wsX11_init wsX9_init := goodIn_r _ [55, 56, 2, 3, 27, 57, 58, 59, 60, 61, 62, 63, 64, 160, 161, 162, 163, 164, 165, 166, 167, 168, 169, 170, 171, 172, 173] rfl (by decide +kernel)
set_option maxRecDepth 20000 in
theorem gX11_init_X9_init_n22 : GoodIn wsX11_init (wsX9_init) := ggX11_init_X9_init
theorem dX11_init_25 : decode cX11_init 25 = .ok (.invokespecial 22, 3) := by decide +kernel
theorem dX11_init_28 : decode cX11_init 28 = .ok (.putfield 23, 3) := by decide +kernel
theorem dX11_init_31 : decode cX11_init 31 = .ok (.aload_n 0, 1) := by decide +kernel
theorem dX11_init_32 : decode cX11_init 32 = .ok (.new 27, 3) := by decide +kernel
theorem dX11_init_35 : decode cX11_init 35 = .ok (.dup, 1) := by decide +kernel
set_option maxRecDepth 20000 in
theorem ggX11_init_X6_init : GoodIn wsX11_init wsX6_init := goodIn_r _ [66, 67, 2, 3, 68, 69, 70, 71, 72, 73, 74, 75, 76, 27, 77, 78, 174, 175, 176, 224, 225] rfl (by decide +kernel)
set_option maxRecDepth 20000 in
theorem gX11_init_X6_init_n29 : GoodIn wsX11_init (wsX6_init) := ggX11_init_X6_init
theorem dX11_init_36 : decode cX11_init 36 = .ok (.invokespecial 29, 3) := by decide +kernel
theorem dX11_init_39 : decode cX11_init 39 = .ok (.putfield 30, 3) := by decide +kernel
theorem dX11_init_42 : decode cX11_init 42 = .ok (.aload_n 0, 1) := by decide +kernel
theorem dX11_init_43 : decode cX11_init 43 = .ok (.new 34, 3) := by decide +kernel
theorem dX11_init_46 : decode cX11_init 46 = .ok (.dup, 1) := by decide +kernel
set_option maxRecDepth 20000 in
theorem ggX11_init_X0_init : GoodIn wsX11_init wsX0_init := goodIn_r _ [81, 82, 2, 3, 27, 83, 84, 85, 86, 87, 88, 89, 177, 178, 179, 180, 181] rfl (by decide +kernel)
set_option maxRecDepth 20000 in
theorem gX11_init_X0_init : GoodIn wsX11_init (wsX0_init) := ggX11_init_X0_init
theorem dX11_init_47 : decode cX11_init 47 = .ok (.invokespecial 36, 3) := by decide +kernel
theorem dX11_init_50 : decode cX11_init 50 = .ok (.putfield 37, 3) := by decide +kernel
theorem dX11_init_53 : decode cX11_init 53 = .ok (.aload_n 0, 1) := by decide +kernel
theorem dX11_init_54 : decode cX11_init 54 = .ok (.new 41, 3) := by decide +kernel
theorem dX11_init_57 : decode cX11_init 57 = .ok (.dup, 1) := by decide +kernel
set_option maxRecDepth 20000 in
theorem ggX11_init_X8_init : GoodIn wsX11_init wsX8_init := goodIn_r _ [91, 92, 2, 3, 27, 93, 94, 95, 96, 97, 98, 99, 100, 182, 183, 184, 185, 186, 187, 188, 189, 190] rfl (by decide +kernel)
set_option maxRecDepth 20000 in
theorem gX11_init_X8_init_n43 : GoodIn wsX11_init (wsX8_init) := ggX11_init_X8_init
theorem dX11_init_58 : decode cX11_init 58 = .ok (.invokespecial 43, 3) := by decide +kernel
theorem dX11_init_61 : decode cX11_init 61 = .ok (.putfield 44, 3) := by decide +kernel
theorem dX11_init_64 : decode cX11_init 64 = .ok (.aload_n 0, 1) := by decide +kernel
theorem dX11_init_65 : decode cX11_init 65 = .ok (.bipush 10, 2) := by decide +kernel
theorem dX11_init_67 : decode cX11_init 67 = .ok (.anewarray 48, 3) := by decide +kernel
theorem dX11_init_70 : decode cX11_init 70 = .ok (.putfield 50, 3) := by decide +kernel
theorem dX11_init_73 : decode cX11_init 73 = .ok (.aload_n 0, 1) := by decide +kernel
theorem dX11_init_74 : decode cX11_init 74 = .ok (.bipush 30, 2) := by decide +kernel
theorem dX11_init_76 : decode cX11_init 76 = .ok (.newarray .int, 2) := by decide +kernel
theorem dX11_init_78 : decode cX11_init 78 = .ok (.putfield 54, 3) := by decide +kernel
theorem dX11_init_81 : decode cX11_init 81 = .ok (.aload_n 0, 1) := by decide +kernel
theorem dX11_init_82 : decode cX11_init 82 = .ok (.new 58, 3) := by decide +kernel
theorem dX11_init_85 : decode cX11_init 85 = .ok (.dup, 1) := by decide +kernel
set_option maxRecDepth 20000 in
theorem ggX11_init_X4_init : GoodIn wsX11_init wsX4_init := goodIn_r _ [102, 103, 2, 3, 27, 104, 105, 106, 107, 108, 109, 110, 111, 112, 113, 114, 191, 192, 193, 194, 195, 196, 197, 198, 199, 200, 201, 202, 203] rfl (by decide +kernel)
set_option maxRecDepth 20000 in
theorem gX11_init_X4_init_n60 : GoodIn wsX11_init (wsX4_init) := ggX11_init_X4_init
theorem dX11_init_86 : decode cX11_init 86 = .ok (.invokespecial 60, 3) := by decide +kernel
theorem dX11_init_89 : decode cX11_init 89 = .ok (.putfield 61, 3) := by decide +kernel
theorem dX11_init_92 : decode cX11_init 92 = .ok (.aload_n 0, 1) := by decide +kernel
theorem dX11_init_93 : decode cX11_init 93 = .ok (.new 65, 3) := by decide +kernel
theorem dX11_init_96 : decode cX11_init 96 = .ok (.dup, 1) := by decide +kernel
set_option maxRecDepth 20000 in
theorem ggX11_init_X3_init : GoodIn wsX11_init wsX3_init := goodIn_r _ [116, 117, 2, 3, 27, 118, 119, 120, 121, 122, 123, 124, 125, 126, 127, 128, 204, 205, 206, 207, 208, 209, 210, 211, 212, 213, 214, 215, 216, 217, 218, 219, 220] rfl (by decide +kernel)
set_option maxRecDepth 20000 in
theorem gX11_init_X3_init_n67 : GoodIn wsX11_init (wsX3_init) := ggX11_init_X3_init
theorem dX11_init_97 : decode cX11_init 97 = .ok (.invokespecial 67, 3) := by decide +kernel
theorem dX11_init_100 : decode cX11_init 100 = .ok (.putfield 68, 3) := by decide +kernel
theorem dX11_init_103 : decode cX11_init 103 = .ok (.aload_n 0, 1) := by decide +kernel
theorem dX11_init_104 : decode cX11_init 104 = .ok (.new 72, 3) := by decide +kernel
theorem dX11_init_107 : decode cX11_init 107 = .ok (.dup, 1) := by decide +kernel
set_option maxRecDepth 20000 in
theorem ggX11_init_X1_init : GoodIn wsX11_init wsX1_init := goodIn_r _ [130, 131, 2, 3, 27, 132, 133, 221, 222, 223] rfl (by decide +kernel)
set_option maxRecDepth 20000 in
theorem gX11_init_X1_init_n74 : GoodIn wsX11_init (wsX1_init) := ggX11_init_X1_init
theorem dX11_init_108 : decode cX11_init 108 = .ok (.invokespecial 74, 3) := by decide +kernel
theorem dX11_init_111 : decode cX11_init 111 = .ok (.putfield 75, 3) := by decide +kernel
theorem dX11_init_114 : decode cX11_init 114 = .ok (.aload_n 0, 1) := by decide +kernel
theorem dX11_init_115 : decode cX11_init 115 = .ok (.getfield 54, 3) := by decide +kernel
theorem dX11_init_118 : decode cX11_init 118 = .ok (.iconst (-1), 1) := by decide +kernel
set_option maxRecDepth 20000 in
theorem ggX11_init_J7_fill_53178 : GoodIn wsX11_init wsJ7_fill_53178 := goodIn_r _ [89] rfl (by decide +kernel)
set_option maxRecDepth 20000 in
theorem gX11_init_J7_fill_53178 : GoodIn wsX11_init (va_wsS RX11 79 yJ7_fill_53178 wsJ7_fill_53178) := goodIn_app (goodIn_r _ [134, 87, 88] rfl (by decide +kernel)) ggX11_init_J7_fill_53178
theorem dX11_init_119 : decode cX11_init 119 = .ok (.invokestatic 79, 3) := by decide +kernel
theorem dX11_init_122 : decode cX11_init 122 = .ok (.return_, 1) := by decide +kernel
theorem ndX0 : ∀ k, k < 5 → tyX0 k ≠ .float ∧ tyX0 k ≠ .double := by decide +kernel
theorem ndX1 : ∀ k, k < 3 → tyX1 k ≠ .float ∧ tyX1 k ≠ .double := by decide +kernel
theorem ndX2 : ∀ k, k < 12 → tyX2 k ≠ .float ∧ tyX2 k ≠ .double := by decide +kernel
theorem ndX3 : ∀ k, k < 17 → tyX3 k ≠ .float ∧ tyX3 k ≠ .double := by decide +kernel
theorem ndX4 : ∀ k, k < 13 → tyX4 k ≠ .float ∧ tyX4 k ≠ .double := by decide +kernel
theorem ndX5 : ∀ k, k < 2 → tyX5 k ≠ .float ∧ tyX5 k ≠ .double := by decide +kernel
theorem ndX6 : ∀ k, k < 3 → tyX6 k ≠ .float ∧ tyX6 k ≠ .double := by decide +kernel
theorem ndX7 : ∀ k, k < 6 → tyX7 k ≠ .float ∧ tyX7 k ≠ .double := by decide +kernel
theorem ndX8 : ∀ k, k < 9 → tyX8 k ≠ .float ∧ tyX8 k ≠ .double := by decide +kernel
theorem ndX9 : ∀ k, k < 14 → tyX9 k ≠ .float ∧ tyX9 k ≠ .double := by decide +kernel
theorem ndX10 : ∀ k, k < 10 → tyX10 k ≠ .float ∧ tyX10 k ≠ .double := by decide +kernel
theorem ndX11 : ∀ k, k < 13 → tyX11 k ≠ .float ∧ tyX11 k ≠ .double := by decide +kernel
theorem ndX12 : ∀ k, k < 96 → tyX12 k ≠ .float ∧ tyX12 k ≠ .double := by decide +kernel
noncomputable def shX0 : Nat → Option z_S := z_sh (fun _ => none) 0 (.inr 11)
noncomputable def PX0 (ad : Nat → Nat) : z_P := fun _ _ => none
noncomputable def IX0 : z_I := fun _ _ => 0
noncomputable def ISX1 : z_I := z_up IX0 0 1 (-1)
theorem hI_ISX1 : ∀ a b, 0 < a → ISX1 a b = 0 := fun a b h => by
  have e : a ≠ 0 := by omega
  show z_up IX0 0 1 (-1) a b = 0
  simp only [z_up, z_fi, if_neg e]
  rfl
noncomputable def shSX2 : Nat → Option z_S := z_sh shX0 1 (.inr 2)
noncomputable def shSX3 : Nat → Option z_S := z_sh shSX2 2 (.inl (.int, 30))
theorem hs_shSX3_1 : shSX3 1 = some (.inr 2) := rfl
noncomputable def PSX4 (ad : Nat → Nat) : z_P := z_up (PX0 ad) 1 0 (some (ad 2))
noncomputable def shSX5 : Nat → Option z_S := z_sh shSX3 3 (.inl (.int, 30))
theorem hs_shSX5_1 : shSX5 1 = some (.inr 2) := hs_shSX3_1
noncomputable def PSX6 (ad : Nat → Nat) : z_P := z_up (PSX4 ad) 1 1 (some (ad 3))
noncomputable def shSX7 : Nat → Option z_S := z_sh shSX5 4 (.inl (.int, 30))
theorem hs_shSX7_1 : shSX7 1 = some (.inr 2) := hs_shSX5_1
noncomputable def PSX8 (ad : Nat → Nat) : z_P := z_up (PSX6 ad) 1 2 (some (ad 4))
noncomputable def shSX9 : Nat → Option z_S := z_sh shSX7 5 (.inl (.int, 30))
theorem hs_shSX9_1 : shSX9 1 = some (.inr 2) := hs_shSX7_1
noncomputable def PSX10 (ad : Nat → Nat) : z_P := z_up (PSX8 ad) 1 3 (some (ad 5))
noncomputable def shSX11 : Nat → Option z_S := z_sh shSX9 6 (.inl (.int, 30))
theorem hs_shSX11_1 : shSX11 1 = some (.inr 2) := hs_shSX9_1
noncomputable def PSX12 (ad : Nat → Nat) : z_P := z_up (PSX10 ad) 1 4 (some (ad 6))
noncomputable def shSX13 : Nat → Option z_S := z_sh shSX11 7 (.inl (.int, 200))
theorem hs_shSX13_1 : shSX13 1 = some (.inr 2) := hs_shSX11_1
noncomputable def PSX14 (ad : Nat → Nat) : z_P := z_up (PSX12 ad) 1 6 (some (ad 7))
noncomputable def shSX15 : Nat → Option z_S := z_sh shSX13 8 (.inl (.int, 200))
theorem hs_shSX15_1 : shSX15 1 = some (.inr 2) := hs_shSX13_1
noncomputable def PSX16 (ad : Nat → Nat) : z_P := z_up (PSX14 ad) 1 7 (some (ad 8))
noncomputable def shSX17 : Nat → Option z_S := z_sh shSX15 9 (.inl (.int, 200))
theorem hs_shSX17_1 : shSX17 1 = some (.inr 2) := hs_shSX15_1
noncomputable def PSX18 (ad : Nat → Nat) : z_P := z_up (PSX16 ad) 1 8 (some (ad 9))
noncomputable def shSX19 : Nat → Option z_S := z_sh shSX17 10 (.inl (.int, 200))
theorem hs_shSX19_1 : shSX19 1 = some (.inr 2) := hs_shSX17_1
noncomputable def PSX20 (ad : Nat → Nat) : z_P := z_up (PSX18 ad) 1 9 (some (ad 10))
noncomputable def shSX21 : Nat → Option z_S := z_sh shSX19 11 (.inl (.int, 200))
theorem hs_shSX21_1 : shSX21 1 = some (.inr 2) := hs_shSX19_1
noncomputable def PSX22 (ad : Nat → Nat) : z_P := z_up (PSX20 ad) 1 10 (some (ad 11))
theorem zi_X2_init_X2 : ∀ w ∈ wsX20, w ∈ wsX2_init := fun w h => (List.mem_cons_of_mem _ (List.mem_append_right _ h))
set_option maxHeartbeats 8000000 in
set_option maxRecDepth 100000 in
theorem ct_X2_init (l : Launch) (G : z_G) (ad : Nat → Nat) (had : ∀ k i, ad (i + k) = ad i + k) (sz : Nat) (hz : sz = ad 2) : z_Mc l yX2_init wsX2_init { frames := 1, cells := 10, slots := 1150, locals := 12 } [.ref (ad 1)] G (shSX2, ad, ISX1, z_J0, (PX0 ad)) (shSX21, ad, ISX1, z_J0, (PSX22 ad)) 10 10 1150 sz := by
  refine z_headQ (cc := cX2_init) (maxL := 1) (ret := none) (by decide) rfl (Nat.le_of_ble_eq_true rfl) ?_
  intro p e s m below meth c ls hIn hK hsz hW hl
  obtain ⟨hx, hb, hr, hml, hown, hts, hlocks, hname⟩ := hIn
  subst hsz
  have hz0 := hz
  have hown : s.vm.findClass RX2 = some m.cls := hown
  have hname : meth.name = "<init>" := hname
  have hA : ∀ q : Nat, s.heap.size ≤ q → z_A (shSX2, ad, ISX1, z_J0, (PX0 ad)) s.heap.size q := fun q h => Or.inr h
  generalize hAe : z_A (shSX2, ad, ISX1, z_J0, (PX0 ad)) s.heap.size = A at *
  have hS : va_S A s.heap s.heap [] := va_S.rf
  have hl : lv_has ls 1 [(0, .ref (ad 1))] := hl
  refine lv_aload_n hx hb dX2_init_0 rfl (lv_at hl 0 rfl) ?_
  refine W.objInit hx hb hown (hts (.methodLink RX2 3 objectInit) (List.mem_of_getElem? (i := 1) rfl)) (hts (.instanceMethod objectInit) (List.mem_of_getElem? (i := 2) rfl)) (hts (.code objectInit ⟨#[0xb1]⟩ 1 none) (List.mem_of_getElem? (i := 3) rfl)) rfl (by rw [hml]; exact hl.1) rfl dX2_init_1 (Nat.le_of_ble_eq_true rfl) (Nat.le_of_ble_eq_true rfl) ?_
  refine W.eq (g2 := F0 m 4 ls []) rfl ?_
  refine lv_aload_n hx hb dX2_init_4 rfl (lv_at hl 0 rfl) ?_
  refine lv_bipush (v := 30) hx hb dX2_init_5 (by decide) ?_
  refine z_newa 2 ad (atype := .int) (ty := .int) (N' := 30) hx hb (hts (.arrayClass .int) (List.mem_of_getElem? (i := 4) rfl)) rfl hK (by simp [z_tys]) hW hS hA hz.symm (fun _ _ => rfl) (fun _ => rfl) (by decide) rfl (Nat.le_of_ble_eq_true rfl) (Nat.le_of_ble_eq_true rfl) (Nat.le_of_ble_eq_true rfl) dX2_init_7 (fun H hz1 hW hS => ?_)
  have hz : H.size = ad 3 := hz1.trans ((congrArg (· + 1) hz).trans (had 1 _).symm)
  have hW : z_W _ A (shSX3, ad, ISX1, z_J0, (PX0 ad)) H := hW
  refine z_putF (T := TX2) (N := 12) (ci := 2) (i := 1) (v := .ref (ad 2)) (I1 := ISX1) (J1 := z_J0) (P1 := (PSX4 ad)) hx hb hts zi_X2_init_X2 tyX2 tyX2_ok nmX2 hown hK hW hS hs_shSX3_1 rfl 0 (by decide) (hts (.fieldLink RX2 9 "PetrolBoard$Holders" "size" "[I") (List.mem_of_getElem? (i := 5) rfl)) (fun _ h => h) rfl hname rfl rfl rfl (by first | rfl | exact congrArg _ z_up_s) (fun a b h ty => z_vP h ty) dX2_init_9 (fun H locs hz1 hW hS => ?_)
  have hz : H.size = ad 3 := hz1.trans hz
  refine lv_aload_n hx hb dX2_init_12 rfl (lv_at hl 0 rfl) ?_
  refine lv_bipush (v := 30) hx hb dX2_init_13 (by decide) ?_
  refine z_newa 3 ad (atype := .int) (ty := .int) (N' := 30) hx hb (hts (.arrayClass .int) (List.mem_of_getElem? (i := 4) rfl)) rfl hK (by simp [z_tys]) hW hS hA hz.symm (fun _ _ => rfl) (fun _ => rfl) (by decide) rfl (Nat.le_of_ble_eq_true rfl) (Nat.le_of_ble_eq_true rfl) (Nat.le_of_ble_eq_true rfl) dX2_init_15 (fun H hz1 hW hS => ?_)
  have hz : H.size = ad 4 := hz1.trans ((congrArg (· + 1) hz).trans (had 1 _).symm)
  have hW : z_W _ A (shSX5, ad, ISX1, z_J0, (PSX4 ad)) H := hW
  refine z_putF (T := TX2) (N := 12) (ci := 2) (i := 1) (v := .ref (ad 3)) (I1 := ISX1) (J1 := z_J0) (P1 := (PSX6 ad)) hx hb hts zi_X2_init_X2 tyX2 tyX2_ok nmX2 hown hK hW hS hs_shSX5_1 rfl 1 (by decide) (hts (.fieldLink RX2 15 "PetrolBoard$Holders" "town" "[I") (List.mem_of_getElem? (i := 6) rfl)) (fun _ h => h) rfl hname rfl rfl rfl (by first | rfl | exact congrArg _ z_up_s) (fun a b h ty => z_vP h ty) dX2_init_17 (fun H locs hz1 hW hS => ?_)
  have hz : H.size = ad 4 := hz1.trans hz
  refine lv_aload_n hx hb dX2_init_20 rfl (lv_at hl 0 rfl) ?_
  refine lv_bipush (v := 30) hx hb dX2_init_21 (by decide) ?_
  refine z_newa 4 ad (atype := .int) (ty := .int) (N' := 30) hx hb (hts (.arrayClass .int) (List.mem_of_getElem? (i := 4) rfl)) rfl hK (by simp [z_tys]) hW hS hA hz.symm (fun _ _ => rfl) (fun _ => rfl) (by decide) rfl (Nat.le_of_ble_eq_true rfl) (Nat.le_of_ble_eq_true rfl) (Nat.le_of_ble_eq_true rfl) dX2_init_23 (fun H hz1 hW hS => ?_)
  have hz : H.size = ad 5 := hz1.trans ((congrArg (· + 1) hz).trans (had 1 _).symm)
  have hW : z_W _ A (shSX7, ad, ISX1, z_J0, (PSX6 ad)) H := hW
  refine z_putF (T := TX2) (N := 12) (ci := 2) (i := 1) (v := .ref (ad 4)) (I1 := ISX1) (J1 := z_J0) (P1 := (PSX8 ad)) hx hb hts zi_X2_init_X2 tyX2 tyX2_ok nmX2 hown hK hW hS hs_shSX7_1 rfl 2 (by decide) (hts (.fieldLink RX2 18 "PetrolBoard$Holders" "seats" "[I") (List.mem_of_getElem? (i := 7) rfl)) (fun _ h => h) rfl hname rfl rfl rfl (by first | rfl | exact congrArg _ z_up_s) (fun a b h ty => z_vP h ty) dX2_init_25 (fun H locs hz1 hW hS => ?_)
  have hz : H.size = ad 5 := hz1.trans hz
  refine lv_aload_n hx hb dX2_init_28 rfl (lv_at hl 0 rfl) ?_
  refine lv_bipush (v := 30) hx hb dX2_init_29 (by decide) ?_
  refine z_newa 5 ad (atype := .int) (ty := .int) (N' := 30) hx hb (hts (.arrayClass .int) (List.mem_of_getElem? (i := 4) rfl)) rfl hK (by simp [z_tys]) hW hS hA hz.symm (fun _ _ => rfl) (fun _ => rfl) (by decide) rfl (Nat.le_of_ble_eq_true rfl) (Nat.le_of_ble_eq_true rfl) (Nat.le_of_ble_eq_true rfl) dX2_init_31 (fun H hz1 hW hS => ?_)
  have hz : H.size = ad 6 := hz1.trans ((congrArg (· + 1) hz).trans (had 1 _).symm)
  have hW : z_W _ A (shSX9, ad, ISX1, z_J0, (PSX8 ad)) H := hW
  refine z_putF (T := TX2) (N := 12) (ci := 2) (i := 1) (v := .ref (ad 5)) (I1 := ISX1) (J1 := z_J0) (P1 := (PSX10 ad)) hx hb hts zi_X2_init_X2 tyX2 tyX2_ok nmX2 hown hK hW hS hs_shSX9_1 rfl 3 (by decide) (hts (.fieldLink RX2 21 "PetrolBoard$Holders" "bid" "[I") (List.mem_of_getElem? (i := 8) rfl)) (fun _ h => h) rfl hname rfl rfl rfl (by first | rfl | exact congrArg _ z_up_s) (fun a b h ty => z_vP h ty) dX2_init_33 (fun H locs hz1 hW hS => ?_)
  have hz : H.size = ad 6 := hz1.trans hz
  refine lv_aload_n hx hb dX2_init_36 rfl (lv_at hl 0 rfl) ?_
  refine lv_bipush (v := 30) hx hb dX2_init_37 (by decide) ?_
  refine z_newa 6 ad (atype := .int) (ty := .int) (N' := 30) hx hb (hts (.arrayClass .int) (List.mem_of_getElem? (i := 4) rfl)) rfl hK (by simp [z_tys]) hW hS hA hz.symm (fun _ _ => rfl) (fun _ => rfl) (by decide) rfl (Nat.le_of_ble_eq_true rfl) (Nat.le_of_ble_eq_true rfl) (Nat.le_of_ble_eq_true rfl) dX2_init_39 (fun H hz1 hW hS => ?_)
  have hz : H.size = ad 7 := hz1.trans ((congrArg (· + 1) hz).trans (had 1 _).symm)
  have hW : z_W _ A (shSX11, ad, ISX1, z_J0, (PSX10 ad)) H := hW
  refine z_putF (T := TX2) (N := 12) (ci := 2) (i := 1) (v := .ref (ad 6)) (I1 := ISX1) (J1 := z_J0) (P1 := (PSX12 ad)) hx hb hts zi_X2_init_X2 tyX2 tyX2_ok nmX2 hown hK hW hS hs_shSX11_1 rfl 4 (by decide) (hts (.fieldLink RX2 24 "PetrolBoard$Holders" "need" "[I") (List.mem_of_getElem? (i := 9) rfl)) (fun _ h => h) rfl hname rfl rfl rfl (by first | rfl | exact congrArg _ z_up_s) (fun a b h ty => z_vP h ty) dX2_init_41 (fun H locs hz1 hW hS => ?_)
  have hz : H.size = ad 7 := hz1.trans hz
  refine lv_aload_n hx hb dX2_init_44 rfl (lv_at hl 0 rfl) ?_
  refine lv_sipush (v := 200) hx hb dX2_init_45 (by decide) ?_
  refine z_newa 7 ad (atype := .int) (ty := .int) (N' := 200) hx hb (hts (.arrayClass .int) (List.mem_of_getElem? (i := 4) rfl)) rfl hK (by simp [z_tys]) hW hS hA hz.symm (fun _ _ => rfl) (fun _ => rfl) (by decide) rfl (Nat.le_of_ble_eq_true rfl) (Nat.le_of_ble_eq_true rfl) (Nat.le_of_ble_eq_true rfl) dX2_init_48 (fun H hz1 hW hS => ?_)
  have hz : H.size = ad 8 := hz1.trans ((congrArg (· + 1) hz).trans (had 1 _).symm)
  have hW : z_W _ A (shSX13, ad, ISX1, z_J0, (PSX12 ad)) H := hW
  refine z_putF (T := TX2) (N := 12) (ci := 2) (i := 1) (v := .ref (ad 7)) (I1 := ISX1) (J1 := z_J0) (P1 := (PSX14 ad)) hx hb hts zi_X2_init_X2 tyX2 tyX2_ok nmX2 hown hK hW hS hs_shSX13_1 rfl 6 (by decide) (hts (.fieldLink RX2 27 "PetrolBoard$Holders" "noteOf" "[I") (List.mem_of_getElem? (i := 10) rfl)) (fun _ h => h) rfl hname rfl rfl rfl (by first | rfl | exact congrArg _ z_up_s) (fun a b h ty => z_vP h ty) dX2_init_50 (fun H locs hz1 hW hS => ?_)
  have hz : H.size = ad 8 := hz1.trans hz
  refine lv_aload_n hx hb dX2_init_53 rfl (lv_at hl 0 rfl) ?_
  refine lv_sipush (v := 200) hx hb dX2_init_54 (by decide) ?_
  refine z_newa 8 ad (atype := .int) (ty := .int) (N' := 200) hx hb (hts (.arrayClass .int) (List.mem_of_getElem? (i := 4) rfl)) rfl hK (by simp [z_tys]) hW hS hA hz.symm (fun _ _ => rfl) (fun _ => rfl) (by decide) rfl (Nat.le_of_ble_eq_true rfl) (Nat.le_of_ble_eq_true rfl) (Nat.le_of_ble_eq_true rfl) dX2_init_57 (fun H hz1 hW hS => ?_)
  have hz : H.size = ad 9 := hz1.trans ((congrArg (· + 1) hz).trans (had 1 _).symm)
  have hW : z_W _ A (shSX15, ad, ISX1, z_J0, (PSX14 ad)) H := hW
  refine z_putF (T := TX2) (N := 12) (ci := 2) (i := 1) (v := .ref (ad 8)) (I1 := ISX1) (J1 := z_J0) (P1 := (PSX16 ad)) hx hb hts zi_X2_init_X2 tyX2 tyX2_ok nmX2 hown hK hW hS hs_shSX15_1 rfl 7 (by decide) (hts (.fieldLink RX2 30 "PetrolBoard$Holders" "kind" "[I") (List.mem_of_getElem? (i := 11) rfl)) (fun _ h => h) rfl hname rfl rfl rfl (by first | rfl | exact congrArg _ z_up_s) (fun a b h ty => z_vP h ty) dX2_init_59 (fun H locs hz1 hW hS => ?_)
  have hz : H.size = ad 9 := hz1.trans hz
  refine lv_aload_n hx hb dX2_init_62 rfl (lv_at hl 0 rfl) ?_
  refine lv_sipush (v := 200) hx hb dX2_init_63 (by decide) ?_
  refine z_newa 9 ad (atype := .int) (ty := .int) (N' := 200) hx hb (hts (.arrayClass .int) (List.mem_of_getElem? (i := 4) rfl)) rfl hK (by simp [z_tys]) hW hS hA hz.symm (fun _ _ => rfl) (fun _ => rfl) (by decide) rfl (Nat.le_of_ble_eq_true rfl) (Nat.le_of_ble_eq_true rfl) (Nat.le_of_ble_eq_true rfl) dX2_init_66 (fun H hz1 hW hS => ?_)
  have hz : H.size = ad 10 := hz1.trans ((congrArg (· + 1) hz).trans (had 1 _).symm)
  have hW : z_W _ A (shSX17, ad, ISX1, z_J0, (PSX16 ad)) H := hW
  refine z_putF (T := TX2) (N := 12) (ci := 2) (i := 1) (v := .ref (ad 9)) (I1 := ISX1) (J1 := z_J0) (P1 := (PSX18 ad)) hx hb hts zi_X2_init_X2 tyX2 tyX2_ok nmX2 hown hK hW hS hs_shSX17_1 rfl 8 (by decide) (hts (.fieldLink RX2 33 "PetrolBoard$Holders" "from" "[I") (List.mem_of_getElem? (i := 12) rfl)) (fun _ h => h) rfl hname rfl rfl rfl (by first | rfl | exact congrArg _ z_up_s) (fun a b h ty => z_vP h ty) dX2_init_68 (fun H locs hz1 hW hS => ?_)
  have hz : H.size = ad 10 := hz1.trans hz
  refine lv_aload_n hx hb dX2_init_71 rfl (lv_at hl 0 rfl) ?_
  refine lv_sipush (v := 200) hx hb dX2_init_72 (by decide) ?_
  refine z_newa 10 ad (atype := .int) (ty := .int) (N' := 200) hx hb (hts (.arrayClass .int) (List.mem_of_getElem? (i := 4) rfl)) rfl hK (by simp [z_tys]) hW hS hA hz.symm (fun _ _ => rfl) (fun _ => rfl) (by decide) rfl (Nat.le_of_ble_eq_true rfl) (Nat.le_of_ble_eq_true rfl) (Nat.le_of_ble_eq_true rfl) dX2_init_75 (fun H hz1 hW hS => ?_)
  have hz : H.size = ad 11 := hz1.trans ((congrArg (· + 1) hz).trans (had 1 _).symm)
  have hW : z_W _ A (shSX19, ad, ISX1, z_J0, (PSX18 ad)) H := hW
  refine z_putF (T := TX2) (N := 12) (ci := 2) (i := 1) (v := .ref (ad 10)) (I1 := ISX1) (J1 := z_J0) (P1 := (PSX20 ad)) hx hb hts zi_X2_init_X2 tyX2 tyX2_ok nmX2 hown hK hW hS hs_shSX19_1 rfl 9 (by decide) (hts (.fieldLink RX2 36 "PetrolBoard$Holders" "toldOn" "[I") (List.mem_of_getElem? (i := 13) rfl)) (fun _ h => h) rfl hname rfl rfl rfl (by first | rfl | exact congrArg _ z_up_s) (fun a b h ty => z_vP h ty) dX2_init_77 (fun H locs hz1 hW hS => ?_)
  have hz : H.size = ad 11 := hz1.trans hz
  refine lv_aload_n hx hb dX2_init_80 rfl (lv_at hl 0 rfl) ?_
  refine lv_sipush (v := 200) hx hb dX2_init_81 (by decide) ?_
  refine z_newa 11 ad (atype := .int) (ty := .int) (N' := 200) hx hb (hts (.arrayClass .int) (List.mem_of_getElem? (i := 4) rfl)) rfl hK (by simp [z_tys]) hW hS hA hz.symm (fun _ _ => rfl) (fun _ => rfl) (by decide) rfl (Nat.le_of_ble_eq_true rfl) (Nat.le_of_ble_eq_true rfl) (Nat.le_of_ble_eq_true rfl) dX2_init_84 (fun H hz1 hW hS => ?_)
  have hz : H.size = ad 12 := hz1.trans ((congrArg (· + 1) hz).trans (had 1 _).symm)
  have hW : z_W _ A (shSX21, ad, ISX1, z_J0, (PSX20 ad)) H := hW
  refine z_putF (T := TX2) (N := 12) (ci := 2) (i := 1) (v := .ref (ad 11)) (I1 := ISX1) (J1 := z_J0) (P1 := (PSX22 ad)) hx hb hts zi_X2_init_X2 tyX2 tyX2_ok nmX2 hown hK hW hS hs_shSX21_1 rfl 10 (by decide) (hts (.fieldLink RX2 39 "PetrolBoard$Holders" "undoneOn" "[I") (List.mem_of_getElem? (i := 14) rfl)) (fun _ h => h) rfl hname rfl rfl rfl (by first | rfl | exact congrArg _ z_up_s) (fun a b h ty => z_vP h ty) dX2_init_86 (fun H locs hz1 hW hS => ?_)
  have hz : H.size = ad 12 := hz1.trans hz
  exact z_cret hx hb hr hK hS (Nat.le_of_ble_eq_true rfl) (Nat.le_of_ble_eq_true rfl) hlocks dX2_init_89 (hz.trans ((had 10 2).trans (congrArg (· + 10) hz0.symm))) hW
theorem hs_shSX21_0 : shSX21 0 = some (.inr 11) := by rfl
noncomputable def PSX23 (ad : Nat → Nat) : z_P := z_up (PSX22 ad) 0 2 (some (ad 1))
noncomputable def shSX24 : Nat → Option z_S := z_sh shSX21 12 (.inr 9)
noncomputable def shSX25 : Nat → Option z_S := z_sh shSX24 13 (.inl (.int, 500))
theorem hs_shSX25_12 : shSX25 12 = some (.inr 9) := rfl
noncomputable def PSX26 (ad : Nat → Nat) : z_P := z_up (PSX23 ad) 12 0 (some (ad 13))
noncomputable def shSX27 : Nat → Option z_S := z_sh shSX25 14 (.inl (.int, 501))
theorem hs_shSX27_12 : shSX27 12 = some (.inr 9) := hs_shSX25_12
noncomputable def PSX28 (ad : Nat → Nat) : z_P := z_up (PSX26 ad) 12 2 (some (ad 14))
noncomputable def shSX29 : Nat → Option z_S := z_sh shSX27 15 (.inl (.int, 501))
theorem hs_shSX29_12 : shSX29 12 = some (.inr 9) := hs_shSX27_12
noncomputable def PSX30 (ad : Nat → Nat) : z_P := z_up (PSX28 ad) 12 3 (some (ad 15))
noncomputable def shSX31 : Nat → Option z_S := z_sh shSX29 16 (.inl (.int, 501))
theorem hs_shSX31_12 : shSX31 12 = some (.inr 9) := hs_shSX29_12
noncomputable def PSX32 (ad : Nat → Nat) : z_P := z_up (PSX30 ad) 12 4 (some (ad 16))
noncomputable def shSX33 : Nat → Option z_S := z_sh shSX31 17 (.inl (.int, 500))
theorem hs_shSX33_12 : shSX33 12 = some (.inr 9) := hs_shSX31_12
noncomputable def PSX34 (ad : Nat → Nat) : z_P := z_up (PSX32 ad) 12 8 (some (ad 17))
noncomputable def shSX35 : Nat → Option z_S := z_sh shSX33 18 (.inl (.int, 24))
theorem hs_shSX35_12 : shSX35 12 = some (.inr 9) := hs_shSX33_12
noncomputable def PSX36 (ad : Nat → Nat) : z_P := z_up (PSX34 ad) 12 10 (some (ad 18))
noncomputable def shSX37 : Nat → Option z_S := z_sh shSX35 19 (.inl (.int, 24))
theorem hs_shSX37_12 : shSX37 12 = some (.inr 9) := hs_shSX35_12
noncomputable def PSX38 (ad : Nat → Nat) : z_P := z_up (PSX36 ad) 12 11 (some (ad 19))
noncomputable def shSX39 : Nat → Option z_S := z_sh shSX37 20 (.inl (.int, 24))
theorem hs_shSX39_12 : shSX39 12 = some (.inr 9) := hs_shSX37_12
noncomputable def PSX40 (ad : Nat → Nat) : z_P := z_up (PSX38 ad) 12 12 (some (ad 20))
theorem zi_X9_init_X9 : ∀ w ∈ wsX90, w ∈ wsX9_init := fun w h => (List.mem_cons_of_mem _ (List.mem_append_right _ h))
set_option maxHeartbeats 8000000 in
set_option maxRecDepth 100000 in
theorem ct_X9_init (l : Launch) (G : z_G) (ad : Nat → Nat) (had : ∀ k i, ad (i + k) = ad i + k) (sz : Nat) (hz : sz = ad 13) : z_Mc l yX9_init wsX9_init { frames := 1, cells := 8, slots := 2575, locals := 12 } [.ref (ad 12)] G (shSX24, ad, ISX1, z_J0, (PSX23 ad)) (shSX39, ad, ISX1, z_J0, (PSX40 ad)) 8 8 2575 sz := by
  refine z_headQ (cc := cX9_init) (maxL := 1) (ret := none) (by decide) rfl (Nat.le_of_ble_eq_true rfl) ?_
  intro p e s m below meth c ls hIn hK hsz hW hl
  obtain ⟨hx, hb, hr, hml, hown, hts, hlocks, hname⟩ := hIn
  subst hsz
  have hz0 := hz
  have hown : s.vm.findClass RX9 = some m.cls := hown
  have hname : meth.name = "<init>" := hname
  have hA : ∀ q : Nat, s.heap.size ≤ q → z_A (shSX24, ad, ISX1, z_J0, (PSX23 ad)) s.heap.size q := fun q h => Or.inr h
  generalize hAe : z_A (shSX24, ad, ISX1, z_J0, (PSX23 ad)) s.heap.size = A at *
  have hS : va_S A s.heap s.heap [] := va_S.rf
  have hl : lv_has ls 1 [(0, .ref (ad 12))] := hl
  refine lv_aload_n hx hb dX9_init_0 rfl (lv_at hl 0 rfl) ?_
  refine W.objInit hx hb hown (hts (.methodLink RX9 3 objectInit) (List.mem_of_getElem? (i := 1) rfl)) (hts (.instanceMethod objectInit) (List.mem_of_getElem? (i := 2) rfl)) (hts (.code objectInit ⟨#[0xb1]⟩ 1 none) (List.mem_of_getElem? (i := 3) rfl)) rfl (by rw [hml]; exact hl.1) rfl dX9_init_1 (Nat.le_of_ble_eq_true rfl) (Nat.le_of_ble_eq_true rfl) ?_
  refine W.eq (g2 := F0 m 4 ls []) rfl ?_
  refine lv_aload_n hx hb dX9_init_4 rfl (lv_at hl 0 rfl) ?_
  refine lv_sipush (v := 500) hx hb dX9_init_5 (by decide) ?_
  refine z_newa 13 ad (atype := .int) (ty := .int) (N' := 500) hx hb (hts (.arrayClass .int) (List.mem_of_getElem? (i := 4) rfl)) rfl hK (by simp [z_tys]) hW hS hA hz.symm (fun _ _ => rfl) (fun _ => rfl) (by decide) rfl (Nat.le_of_ble_eq_true rfl) (Nat.le_of_ble_eq_true rfl) (Nat.le_of_ble_eq_true rfl) dX9_init_8 (fun H hz1 hW hS => ?_)
  have hz : H.size = ad 14 := hz1.trans ((congrArg (· + 1) hz).trans (had 1 _).symm)
  have hW : z_W _ A (shSX25, ad, ISX1, z_J0, (PSX23 ad)) H := hW
  refine z_putF (T := TX9) (N := 14) (ci := 9) (i := 12) (v := .ref (ad 13)) (I1 := ISX1) (J1 := z_J0) (P1 := (PSX26 ad)) hx hb hts zi_X9_init_X9 tyX9 tyX9_ok nmX9 hown hK hW hS hs_shSX25_12 rfl 0 (by decide) (hts (.fieldLink RX9 9 "PetrolBoard$Reader" "text" "[I") (List.mem_of_getElem? (i := 5) rfl)) (fun _ h => h) rfl hname rfl rfl rfl (by first | rfl | exact congrArg _ z_up_s) (fun a b h ty => z_vP h ty) dX9_init_10 (fun H locs hz1 hW hS => ?_)
  have hz : H.size = ad 14 := hz1.trans hz
  refine lv_aload_n hx hb dX9_init_13 rfl (lv_at hl 0 rfl) ?_
  refine lv_sipush (v := 501) hx hb dX9_init_14 (by decide) ?_
  refine z_newa 14 ad (atype := .int) (ty := .int) (N' := 501) hx hb (hts (.arrayClass .int) (List.mem_of_getElem? (i := 4) rfl)) rfl hK (by simp [z_tys]) hW hS hA hz.symm (fun _ _ => rfl) (fun _ => rfl) (by decide) rfl (Nat.le_of_ble_eq_true rfl) (Nat.le_of_ble_eq_true rfl) (Nat.le_of_ble_eq_true rfl) dX9_init_17 (fun H hz1 hW hS => ?_)
  have hz : H.size = ad 15 := hz1.trans ((congrArg (· + 1) hz).trans (had 1 _).symm)
  have hW : z_W _ A (shSX27, ad, ISX1, z_J0, (PSX26 ad)) H := hW
  refine z_putF (T := TX9) (N := 14) (ci := 9) (i := 12) (v := .ref (ad 14)) (I1 := ISX1) (J1 := z_J0) (P1 := (PSX28 ad)) hx hb hts zi_X9_init_X9 tyX9 tyX9_ok nmX9 hown hK hW hS hs_shSX27_12 rfl 2 (by decide) (hts (.fieldLink RX9 15 "PetrolBoard$Reader" "tokens" "[I") (List.mem_of_getElem? (i := 6) rfl)) (fun _ h => h) rfl hname rfl rfl rfl (by first | rfl | exact congrArg _ z_up_s) (fun a b h ty => z_vP h ty) dX9_init_19 (fun H locs hz1 hW hS => ?_)
  have hz : H.size = ad 15 := hz1.trans hz
  refine lv_aload_n hx hb dX9_init_22 rfl (lv_at hl 0 rfl) ?_
  refine lv_sipush (v := 501) hx hb dX9_init_23 (by decide) ?_
  refine z_newa 15 ad (atype := .int) (ty := .int) (N' := 501) hx hb (hts (.arrayClass .int) (List.mem_of_getElem? (i := 4) rfl)) rfl hK (by simp [z_tys]) hW hS hA hz.symm (fun _ _ => rfl) (fun _ => rfl) (by decide) rfl (Nat.le_of_ble_eq_true rfl) (Nat.le_of_ble_eq_true rfl) (Nat.le_of_ble_eq_true rfl) dX9_init_26 (fun H hz1 hW hS => ?_)
  have hz : H.size = ad 16 := hz1.trans ((congrArg (· + 1) hz).trans (had 1 _).symm)
  have hW : z_W _ A (shSX29, ad, ISX1, z_J0, (PSX28 ad)) H := hW
  refine z_putF (T := TX9) (N := 14) (ci := 9) (i := 12) (v := .ref (ad 15)) (I1 := ISX1) (J1 := z_J0) (P1 := (PSX30 ad)) hx hb hts zi_X9_init_X9 tyX9 tyX9_ok nmX9 hown hK hW hS hs_shSX29_12 rfl 3 (by decide) (hts (.fieldLink RX9 18 "PetrolBoard$Reader" "values" "[I") (List.mem_of_getElem? (i := 7) rfl)) (fun _ h => h) rfl hname rfl rfl rfl (by first | rfl | exact congrArg _ z_up_s) (fun a b h ty => z_vP h ty) dX9_init_28 (fun H locs hz1 hW hS => ?_)
  have hz : H.size = ad 16 := hz1.trans hz
  refine lv_aload_n hx hb dX9_init_31 rfl (lv_at hl 0 rfl) ?_
  refine lv_sipush (v := 501) hx hb dX9_init_32 (by decide) ?_
  refine z_newa 16 ad (atype := .int) (ty := .int) (N' := 501) hx hb (hts (.arrayClass .int) (List.mem_of_getElem? (i := 4) rfl)) rfl hK (by simp [z_tys]) hW hS hA hz.symm (fun _ _ => rfl) (fun _ => rfl) (by decide) rfl (Nat.le_of_ble_eq_true rfl) (Nat.le_of_ble_eq_true rfl) (Nat.le_of_ble_eq_true rfl) dX9_init_35 (fun H hz1 hW hS => ?_)
  have hz : H.size = ad 17 := hz1.trans ((congrArg (· + 1) hz).trans (had 1 _).symm)
  have hW : z_W _ A (shSX31, ad, ISX1, z_J0, (PSX30 ad)) H := hW
  refine z_putF (T := TX9) (N := 14) (ci := 9) (i := 12) (v := .ref (ad 16)) (I1 := ISX1) (J1 := z_J0) (P1 := (PSX32 ad)) hx hb hts zi_X9_init_X9 tyX9 tyX9_ok nmX9 hown hK hW hS hs_shSX31_12 rfl 4 (by decide) (hts (.fieldLink RX9 21 "PetrolBoard$Reader" "places" "[I") (List.mem_of_getElem? (i := 8) rfl)) (fun _ h => h) rfl hname rfl rfl rfl (by first | rfl | exact congrArg _ z_up_s) (fun a b h ty => z_vP h ty) dX9_init_37 (fun H locs hz1 hW hS => ?_)
  have hz : H.size = ad 17 := hz1.trans hz
  refine lv_aload_n hx hb dX9_init_40 rfl (lv_at hl 0 rfl) ?_
  refine lv_sipush (v := 500) hx hb dX9_init_41 (by decide) ?_
  refine z_newa 17 ad (atype := .int) (ty := .int) (N' := 500) hx hb (hts (.arrayClass .int) (List.mem_of_getElem? (i := 4) rfl)) rfl hK (by simp [z_tys]) hW hS hA hz.symm (fun _ _ => rfl) (fun _ => rfl) (by decide) rfl (Nat.le_of_ble_eq_true rfl) (Nat.le_of_ble_eq_true rfl) (Nat.le_of_ble_eq_true rfl) dX9_init_44 (fun H hz1 hW hS => ?_)
  have hz : H.size = ad 18 := hz1.trans ((congrArg (· + 1) hz).trans (had 1 _).symm)
  have hW : z_W _ A (shSX33, ad, ISX1, z_J0, (PSX32 ad)) H := hW
  refine z_putF (T := TX9) (N := 14) (ci := 9) (i := 12) (v := .ref (ad 17)) (I1 := ISX1) (J1 := z_J0) (P1 := (PSX34 ad)) hx hb hts zi_X9_init_X9 tyX9 tyX9_ok nmX9 hown hK hW hS hs_shSX33_12 rfl 8 (by decide) (hts (.fieldLink RX9 24 "PetrolBoard$Reader" "code" "[I") (List.mem_of_getElem? (i := 9) rfl)) (fun _ h => h) rfl hname rfl rfl rfl (by first | rfl | exact congrArg _ z_up_s) (fun a b h ty => z_vP h ty) dX9_init_46 (fun H locs hz1 hW hS => ?_)
  have hz : H.size = ad 18 := hz1.trans hz
  refine lv_aload_n hx hb dX9_init_49 rfl (lv_at hl 0 rfl) ?_
  refine lv_bipush (v := 24) hx hb dX9_init_50 (by decide) ?_
  refine z_newa 18 ad (atype := .int) (ty := .int) (N' := 24) hx hb (hts (.arrayClass .int) (List.mem_of_getElem? (i := 4) rfl)) rfl hK (by simp [z_tys]) hW hS hA hz.symm (fun _ _ => rfl) (fun _ => rfl) (by decide) rfl (Nat.le_of_ble_eq_true rfl) (Nat.le_of_ble_eq_true rfl) (Nat.le_of_ble_eq_true rfl) dX9_init_52 (fun H hz1 hW hS => ?_)
  have hz : H.size = ad 19 := hz1.trans ((congrArg (· + 1) hz).trans (had 1 _).symm)
  have hW : z_W _ A (shSX35, ad, ISX1, z_J0, (PSX34 ad)) H := hW
  refine z_putF (T := TX9) (N := 14) (ci := 9) (i := 12) (v := .ref (ad 18)) (I1 := ISX1) (J1 := z_J0) (P1 := (PSX36 ad)) hx hb hts zi_X9_init_X9 tyX9 tyX9_ok nmX9 hown hK hW hS hs_shSX35_12 rfl 10 (by decide) (hts (.fieldLink RX9 27 "PetrolBoard$Reader" "head" "[I") (List.mem_of_getElem? (i := 10) rfl)) (fun _ h => h) rfl hname rfl rfl rfl (by first | rfl | exact congrArg _ z_up_s) (fun a b h ty => z_vP h ty) dX9_init_54 (fun H locs hz1 hW hS => ?_)
  have hz : H.size = ad 19 := hz1.trans hz
  refine lv_aload_n hx hb dX9_init_57 rfl (lv_at hl 0 rfl) ?_
  refine lv_bipush (v := 24) hx hb dX9_init_58 (by decide) ?_
  refine z_newa 19 ad (atype := .int) (ty := .int) (N' := 24) hx hb (hts (.arrayClass .int) (List.mem_of_getElem? (i := 4) rfl)) rfl hK (by simp [z_tys]) hW hS hA hz.symm (fun _ _ => rfl) (fun _ => rfl) (by decide) rfl (Nat.le_of_ble_eq_true rfl) (Nat.le_of_ble_eq_true rfl) (Nat.le_of_ble_eq_true rfl) dX9_init_60 (fun H hz1 hW hS => ?_)
  have hz : H.size = ad 20 := hz1.trans ((congrArg (· + 1) hz).trans (had 1 _).symm)
  have hW : z_W _ A (shSX37, ad, ISX1, z_J0, (PSX36 ad)) H := hW
  refine z_putF (T := TX9) (N := 14) (ci := 9) (i := 12) (v := .ref (ad 19)) (I1 := ISX1) (J1 := z_J0) (P1 := (PSX38 ad)) hx hb hts zi_X9_init_X9 tyX9 tyX9_ok nmX9 hown hK hW hS hs_shSX37_12 rfl 11 (by decide) (hts (.fieldLink RX9 30 "PetrolBoard$Reader" "first" "[I") (List.mem_of_getElem? (i := 11) rfl)) (fun _ h => h) rfl hname rfl rfl rfl (by first | rfl | exact congrArg _ z_up_s) (fun a b h ty => z_vP h ty) dX9_init_62 (fun H locs hz1 hW hS => ?_)
  have hz : H.size = ad 20 := hz1.trans hz
  refine lv_aload_n hx hb dX9_init_65 rfl (lv_at hl 0 rfl) ?_
  refine lv_bipush (v := 24) hx hb dX9_init_66 (by decide) ?_
  refine z_newa 20 ad (atype := .int) (ty := .int) (N' := 24) hx hb (hts (.arrayClass .int) (List.mem_of_getElem? (i := 4) rfl)) rfl hK (by simp [z_tys]) hW hS hA hz.symm (fun _ _ => rfl) (fun _ => rfl) (by decide) rfl (Nat.le_of_ble_eq_true rfl) (Nat.le_of_ble_eq_true rfl) (Nat.le_of_ble_eq_true rfl) dX9_init_68 (fun H hz1 hW hS => ?_)
  have hz : H.size = ad 21 := hz1.trans ((congrArg (· + 1) hz).trans (had 1 _).symm)
  have hW : z_W _ A (shSX39, ad, ISX1, z_J0, (PSX38 ad)) H := hW
  refine z_putF (T := TX9) (N := 14) (ci := 9) (i := 12) (v := .ref (ad 20)) (I1 := ISX1) (J1 := z_J0) (P1 := (PSX40 ad)) hx hb hts zi_X9_init_X9 tyX9 tyX9_ok nmX9 hown hK hW hS hs_shSX39_12 rfl 12 (by decide) (hts (.fieldLink RX9 33 "PetrolBoard$Reader" "second" "[I") (List.mem_of_getElem? (i := 12) rfl)) (fun _ h => h) rfl hname rfl rfl rfl (by first | rfl | exact congrArg _ z_up_s) (fun a b h ty => z_vP h ty) dX9_init_70 (fun H locs hz1 hW hS => ?_)
  have hz : H.size = ad 21 := hz1.trans hz
  exact z_cret hx hb hr hK hS (Nat.le_of_ble_eq_true rfl) (Nat.le_of_ble_eq_true rfl) hlocks dX9_init_73 (hz.trans ((had 8 13).trans (congrArg (· + 8) hz0.symm))) hW
theorem hs_shSX39_0 : shSX39 0 = some (.inr 11) := by rfl
noncomputable def PSX41 (ad : Nat → Nat) : z_P := z_up (PSX40 ad) 0 3 (some (ad 12))
noncomputable def shSX42 : Nat → Option z_S := z_sh shSX39 21 (.inr 6)
noncomputable def shSX43 : Nat → Option z_S := z_sh shSX42 22 (.inl (.object RX7, 12))
theorem hs_shSX43_21 : shSX43 21 = some (.inr 6) := rfl
noncomputable def PSX44 (ad : Nat → Nat) : z_P := z_up (PSX41 ad) 21 0 (some (ad 22))
noncomputable def shSX45 : Nat → Option z_S := z_sh shSX43 23 (.inr 5)
noncomputable def shSX46 : Nat → Option z_S := z_sh shSX45 24 (.inl (.int, 7))
theorem hs_shSX46_23 : shSX46 23 = some (.inr 5) := rfl
noncomputable def PSX47 (ad : Nat → Nat) : z_P := z_up (PSX44 ad) 23 0 (some (ad 24))
noncomputable def shSX48 : Nat → Option z_S := z_sh shSX46 25 (.inl (.int, 64))
theorem hs_shSX48_23 : shSX48 23 = some (.inr 5) := hs_shSX46_23
noncomputable def PSX49 (ad : Nat → Nat) : z_P := z_up (PSX47 ad) 23 1 (some (ad 25))
theorem zi_X5_init_X5 : ∀ w ∈ wsX50, w ∈ wsX5_init := fun w h => (List.mem_cons_of_mem _ (List.mem_append_right _ h))
set_option maxHeartbeats 8000000 in
set_option maxRecDepth 100000 in
theorem ct_X5_init (l : Launch) (G : z_G) (ad : Nat → Nat) (had : ∀ k i, ad (i + k) = ad i + k) (sz : Nat) (hz : sz = ad 24) : z_Mc l yX5_init wsX5_init { frames := 1, cells := 2, slots := 71, locals := 12 } [.ref (ad 23)] G (shSX45, ad, ISX1, z_J0, (PSX44 ad)) (shSX48, ad, ISX1, z_J0, (PSX49 ad)) 2 2 71 sz := by
  refine z_headQ (cc := cX5_init) (maxL := 1) (ret := none) (by decide) rfl (Nat.le_of_ble_eq_true rfl) ?_
  intro p e s m below meth c ls hIn hK hsz hW hl
  obtain ⟨hx, hb, hr, hml, hown, hts, hlocks, hname⟩ := hIn
  subst hsz
  have hz0 := hz
  have hown : s.vm.findClass RX5 = some m.cls := hown
  have hname : meth.name = "<init>" := hname
  have hA : ∀ q : Nat, s.heap.size ≤ q → z_A (shSX45, ad, ISX1, z_J0, (PSX44 ad)) s.heap.size q := fun q h => Or.inr h
  generalize hAe : z_A (shSX45, ad, ISX1, z_J0, (PSX44 ad)) s.heap.size = A at *
  have hS : va_S A s.heap s.heap [] := va_S.rf
  have hl : lv_has ls 1 [(0, .ref (ad 23))] := hl
  refine lv_aload_n hx hb dX5_init_0 rfl (lv_at hl 0 rfl) ?_
  refine W.objInit hx hb hown (hts (.methodLink RX5 3 objectInit) (List.mem_of_getElem? (i := 1) rfl)) (hts (.instanceMethod objectInit) (List.mem_of_getElem? (i := 2) rfl)) (hts (.code objectInit ⟨#[0xb1]⟩ 1 none) (List.mem_of_getElem? (i := 3) rfl)) rfl (by rw [hml]; exact hl.1) rfl dX5_init_1 (Nat.le_of_ble_eq_true rfl) (Nat.le_of_ble_eq_true rfl) ?_
  refine W.eq (g2 := F0 m 4 ls []) rfl ?_
  refine lv_aload_n hx hb dX5_init_4 rfl (lv_at hl 0 rfl) ?_
  refine lv_bipush (v := 7) hx hb dX5_init_5 (by decide) ?_
  refine z_newa 24 ad (atype := .int) (ty := .int) (N' := 7) hx hb (hts (.arrayClass .int) (List.mem_of_getElem? (i := 4) rfl)) rfl hK (by simp [z_tys]) hW hS hA hz.symm (fun _ _ => rfl) (fun _ => rfl) (by decide) rfl (Nat.le_of_ble_eq_true rfl) (Nat.le_of_ble_eq_true rfl) (Nat.le_of_ble_eq_true rfl) dX5_init_7 (fun H hz1 hW hS => ?_)
  have hz : H.size = ad 25 := hz1.trans ((congrArg (· + 1) hz).trans (had 1 _).symm)
  have hW : z_W _ A (shSX46, ad, ISX1, z_J0, (PSX44 ad)) H := hW
  refine z_putF (T := TX5) (N := 2) (ci := 5) (i := 23) (v := .ref (ad 24)) (I1 := ISX1) (J1 := z_J0) (P1 := (PSX47 ad)) hx hb hts zi_X5_init_X5 tyX5 tyX5_ok nmX5 hown hK hW hS hs_shSX46_23 rfl 0 (by decide) (hts (.fieldLink RX5 9 "PetrolBoard$Machine" "names" "[I") (List.mem_of_getElem? (i := 5) rfl)) (fun _ h => h) rfl hname rfl rfl rfl (by first | rfl | exact congrArg _ z_up_s) (fun a b h ty => z_vP h ty) dX5_init_9 (fun H locs hz1 hW hS => ?_)
  have hz : H.size = ad 25 := hz1.trans hz
  refine lv_aload_n hx hb dX5_init_12 rfl (lv_at hl 0 rfl) ?_
  refine lv_bipush (v := 64) hx hb dX5_init_13 (by decide) ?_
  refine z_newa 25 ad (atype := .int) (ty := .int) (N' := 64) hx hb (hts (.arrayClass .int) (List.mem_of_getElem? (i := 4) rfl)) rfl hK (by simp [z_tys]) hW hS hA hz.symm (fun _ _ => rfl) (fun _ => rfl) (by decide) rfl (Nat.le_of_ble_eq_true rfl) (Nat.le_of_ble_eq_true rfl) (Nat.le_of_ble_eq_true rfl) dX5_init_15 (fun H hz1 hW hS => ?_)
  have hz : H.size = ad 26 := hz1.trans ((congrArg (· + 1) hz).trans (had 1 _).symm)
  have hW : z_W _ A (shSX48, ad, ISX1, z_J0, (PSX47 ad)) H := hW
  refine z_putF (T := TX5) (N := 2) (ci := 5) (i := 23) (v := .ref (ad 25)) (I1 := ISX1) (J1 := z_J0) (P1 := (PSX49 ad)) hx hb hts zi_X5_init_X5 tyX5 tyX5_ok nmX5 hown hK hW hS hs_shSX48_23 rfl 1 (by decide) (hts (.fieldLink RX5 15 "PetrolBoard$Machine" "stack" "[I") (List.mem_of_getElem? (i := 6) rfl)) (fun _ h => h) rfl hname rfl rfl rfl (by first | rfl | exact congrArg _ z_up_s) (fun a b h ty => z_vP h ty) dX5_init_17 (fun H locs hz1 hW hS => ?_)
  have hz : H.size = ad 26 := hz1.trans hz
  exact z_cret hx hb hr hK hS (Nat.le_of_ble_eq_true rfl) (Nat.le_of_ble_eq_true rfl) hlocks dX5_init_20 (hz.trans ((had 2 24).trans (congrArg (· + 2) hz0.symm))) hW
theorem hs_shSX48_21 : shSX48 21 = some (.inr 6) := by rfl
noncomputable def PSX50 (ad : Nat → Nat) : z_P := z_up (PSX49 ad) 21 1 (some (ad 23))
theorem zi_X6_init_X5 : ∀ w ∈ wsX50, w ∈ wsX6_init := fun w h => (List.mem_cons_of_mem _ (List.mem_append_right _ h))
theorem zi_X6_init_X6 : ∀ w ∈ wsX60, w ∈ wsX6_init := fun w h => (List.mem_cons_of_mem _ (List.mem_append_left _ (List.mem_append_right _ h)))
set_option maxHeartbeats 8000000 in
set_option maxRecDepth 100000 in
theorem ct_X6_init (l : Launch) (G : z_G) (ad : Nat → Nat) (had : ∀ k i, ad (i + k) = ad i + k) (sz : Nat) (hz : sz = ad 22) : z_Mc l yX6_init wsX6_init { frames := 2, cells := 4, slots := 85, locals := 32 } [.ref (ad 21)] G (shSX42, ad, ISX1, z_J0, (PSX41 ad)) (shSX48, ad, ISX1, z_J0, (PSX50 ad)) 4 4 85 sz := by
  refine z_headQ (cc := cX6_init) (maxL := 1) (ret := none) (by decide) rfl (Nat.le_of_ble_eq_true rfl) ?_
  intro p e s m below meth c ls hIn hK hsz hW hl
  obtain ⟨hx, hb, hr, hml, hown, hts, hlocks, hname⟩ := hIn
  subst hsz
  have hz0 := hz
  have hown : s.vm.findClass RX6 = some m.cls := hown
  have hname : meth.name = "<init>" := hname
  have hA : ∀ q : Nat, s.heap.size ≤ q → z_A (shSX42, ad, ISX1, z_J0, (PSX41 ad)) s.heap.size q := fun q h => Or.inr h
  generalize hAe : z_A (shSX42, ad, ISX1, z_J0, (PSX41 ad)) s.heap.size = A at *
  have hS : va_S A s.heap s.heap [] := va_S.rf
  have hl : lv_has ls 1 [(0, .ref (ad 21))] := hl
  refine lv_aload_n hx hb dX6_init_0 rfl (lv_at hl 0 rfl) ?_
  refine W.objInit hx hb hown (hts (.methodLink RX6 3 objectInit) (List.mem_of_getElem? (i := 1) rfl)) (hts (.instanceMethod objectInit) (List.mem_of_getElem? (i := 2) rfl)) (hts (.code objectInit ⟨#[0xb1]⟩ 1 none) (List.mem_of_getElem? (i := 3) rfl)) rfl (by rw [hml]; exact hl.1) rfl dX6_init_1 (Nat.le_of_ble_eq_true rfl) (Nat.le_of_ble_eq_true rfl) ?_
  refine W.eq (g2 := F0 m 4 ls []) rfl ?_
  refine lv_aload_n hx hb dX6_init_4 rfl (lv_at hl 0 rfl) ?_
  refine lv_bipush (v := 12) hx hb dX6_init_5 (by decide) ?_
  refine z_newq 22 ad (N' := 12) hx hb hown (hts (.classLink RX6 9 RX7) (List.mem_of_getElem? (i := 4) rfl)) (hK.2.2.2.1 RX7 (by simp [z_over])) hK (by simp [z_tys]) hW hS hA hz.symm (fun _ _ => rfl) (fun _ => rfl) (by decide) rfl (Nat.le_of_ble_eq_true rfl) (Nat.le_of_ble_eq_true rfl) (Nat.le_of_ble_eq_true rfl) dX6_init_7 (fun H hz1 hW hS => ?_)
  have hz : H.size = ad 23 := hz1.trans ((congrArg (· + 1) hz).trans (had 1 _).symm)
  have hW : z_W _ A (shSX43, ad, ISX1, z_J0, (PSX41 ad)) H := hW
  refine z_putF (T := TX6) (N := 3) (ci := 6) (i := 21) (v := .ref (ad 22)) (I1 := ISX1) (J1 := z_J0) (P1 := (PSX44 ad)) hx hb hts zi_X6_init_X6 tyX6 tyX6_ok nmX6 hown hK hW hS hs_shSX43_21 rfl 0 (by decide) (hts (.fieldLink RX6 11 "PetrolBoard$OrderBook" "told" "[LPetrolBoard$Orders;") (List.mem_of_getElem? (i := 5) rfl)) (fun _ h => h) rfl hname rfl rfl rfl (by first | rfl | exact congrArg _ z_up_s) (fun a b h ty => z_vP h ty) dX6_init_10 (fun H locs hz1 hW hS => ?_)
  have hz : H.size = ad 23 := hz1.trans hz
  refine lv_aload_n hx hb dX6_init_13 rfl (lv_at hl 0 rfl) ?_
  refine z_new 23 ad (T := TX5) (N := 2) (ci := 5) hx hb hts zi_X6_init_X5 tyX5 tyX5_ok hown (hts (.classLink RX6 17 RX5) (List.mem_of_getElem? (i := 6) rfl)) (hts (.instantiable RX5 2) (List.mem_of_getElem? (i := 7) rfl)) (hts (.initialized RX5) (List.mem_of_getElem? (i := 8) rfl)) hK hW hS hA hz.symm (fun _ _ => rfl) rfl (fun k hk => (z_v0 rfl rfl rfl (ndX5 k hk)).symm) (Nat.le_of_ble_eq_true rfl) (Nat.le_of_ble_eq_true rfl) dX6_init_14 (fun H hz1 hW hS => ?_)
  have hz : H.size = ad 24 := hz1.trans ((congrArg (· + 1) hz).trans (had 1 _).symm)
  have hW : z_W _ A (shSX45, ad, ISX1, z_J0, (PSX44 ad)) H := hW
  refine lv_dup hx hb dX6_init_17 rfl ?_
  refine z_cc hW hS hA (va_runIN (As := []) (rest := [.ref (ad 23), .ref (ad 21)]) ⟨hx, hb, hml, hown, hts⟩ (ct_X5_init l G ad had _ hz) ⟨va_cnB 0 hts gX6_init_X5_init_n19 rfl rfl rfl (hK.2.2.1 _ (List.mem_of_getElem? (i := 3) rfl)) (hts (.initialized RX5) (List.mem_of_getElem? (i := 8) rfl)) (by decide +kernel) ⟨Nat.le_of_ble_eq_true rfl, Nat.le_of_ble_eq_true rfl⟩, rfl, (hts (.instanceMethod yX5_init) (List.mem_of_getElem? (i := 10) rfl))⟩ (z_preS hK hW) rfl rfl hl.1 rfl (lv_room (Nat.le_of_ble_eq_true rfl)) dX6_init_18 ⟨Nat.le_of_ble_eq_true rfl, Nat.le_of_ble_eq_true rfl⟩) (fun H locs hz1 hW hS => ?_)
  have hz : H.size = ad 26 := hz1.trans ((congrArg (· + 2) hz).trans (had 2 _).symm)
  refine z_putF (T := TX6) (N := 3) (ci := 6) (i := 21) (v := .ref (ad 23)) (I1 := ISX1) (J1 := z_J0) (P1 := (PSX50 ad)) hx hb hts zi_X6_init_X6 tyX6 tyX6_ok nmX6 hown hK hW hS hs_shSX48_21 rfl 1 (by decide) (hts (.fieldLink RX6 20 "PetrolBoard$OrderBook" "machine" "LPetrolBoard$Machine;") (List.mem_of_getElem? (i := 9) rfl)) (fun _ h => h) rfl hname rfl rfl rfl (by first | rfl | exact congrArg _ z_up_s) (fun a b h ty => z_vP h ty) dX6_init_21 (fun H locs hz1 hW hS => ?_)
  have hz : H.size = ad 26 := hz1.trans hz
  exact z_cret hx hb hr hK hS (Nat.le_of_ble_eq_true rfl) (Nat.le_of_ble_eq_true rfl) hlocks dX6_init_24 (hz.trans ((had 4 22).trans (congrArg (· + 4) hz0.symm))) hW
theorem hs_shSX48_0 : shSX48 0 = some (.inr 11) := by rfl
noncomputable def PSX51 (ad : Nat → Nat) : z_P := z_up (PSX50 ad) 0 4 (some (ad 21))
noncomputable def shSX52 : Nat → Option z_S := z_sh shSX48 26 (.inr 0)
noncomputable def shSX53 : Nat → Option z_S := z_sh shSX52 27 (.inl (.int, 720))
theorem hs_shSX53_26 : shSX53 26 = some (.inr 0) := rfl
noncomputable def PSX54 (ad : Nat → Nat) : z_P := z_up (PSX51 ad) 26 0 (some (ad 27))
noncomputable def shSX55 : Nat → Option z_S := z_sh shSX53 28 (.inl (.int, 512))
theorem hs_shSX55_26 : shSX55 26 = some (.inr 0) := hs_shSX53_26
noncomputable def PSX56 (ad : Nat → Nat) : z_P := z_up (PSX54 ad) 26 1 (some (ad 28))
noncomputable def shSX57 : Nat → Option z_S := z_sh shSX55 29 (.inl (.int, 512))
theorem hs_shSX57_26 : shSX57 26 = some (.inr 0) := hs_shSX55_26
noncomputable def PSX58 (ad : Nat → Nat) : z_P := z_up (PSX56 ad) 26 2 (some (ad 29))
noncomputable def ISX59 : z_I := z_fi ISX1 27 (-1)
theorem hI_ISX59 : ∀ a b, 27 < a → ISX59 a b = 0 := fun a b h => by
  have e : a ≠ 27 := by omega
  show z_fi ISX1 27 (-1) a b = 0
  simp only [z_up, z_fi, if_neg e]
  exact hI_ISX1 a b (by omega)
theorem zi_X0_init_X0 : ∀ w ∈ wsX00, w ∈ wsX0_init := fun w h => (List.mem_cons_of_mem _ (List.mem_append_right _ h))
set_option maxHeartbeats 8000000 in
set_option maxRecDepth 100000 in
theorem ct_X0_init (l : Launch) (G : z_G) (ad : Nat → Nat) (had : ∀ k i, ad (i + k) = ad i + k) (sz : Nat) (hz : sz = ad 27) : z_Mc l yX0_init wsX0_init { frames := 2, cells := 3, slots := 1744, locals := 35 } [.ref (ad 26)] G (shSX52, ad, ISX1, z_J0, (PSX51 ad)) (shSX57, ad, ISX59, z_J0, (PSX58 ad)) 3 3 1744 sz := by
  refine z_headQ (cc := cX0_init) (maxL := 1) (ret := none) (by decide) rfl (Nat.le_of_ble_eq_true rfl) ?_
  intro p e s m below meth c ls hIn hK hsz hW hl
  obtain ⟨hx, hb, hr, hml, hown, hts, hlocks, hname⟩ := hIn
  subst hsz
  have hz0 := hz
  have hown : s.vm.findClass RX0 = some m.cls := hown
  have hname : meth.name = "<init>" := hname
  have hA : ∀ q : Nat, s.heap.size ≤ q → z_A (shSX52, ad, ISX1, z_J0, (PSX51 ad)) s.heap.size q := fun q h => Or.inr h
  generalize hAe : z_A (shSX52, ad, ISX1, z_J0, (PSX51 ad)) s.heap.size = A at *
  have hS : va_S A s.heap s.heap [] := va_S.rf
  have hl : lv_has ls 1 [(0, .ref (ad 26))] := hl
  refine lv_aload_n hx hb dX0_init_0 rfl (lv_at hl 0 rfl) ?_
  refine W.objInit hx hb hown (hts (.methodLink RX0 3 objectInit) (List.mem_of_getElem? (i := 1) rfl)) (hts (.instanceMethod objectInit) (List.mem_of_getElem? (i := 2) rfl)) (hts (.code objectInit ⟨#[0xb1]⟩ 1 none) (List.mem_of_getElem? (i := 3) rfl)) rfl (by rw [hml]; exact hl.1) rfl dX0_init_1 (Nat.le_of_ble_eq_true rfl) (Nat.le_of_ble_eq_true rfl) ?_
  refine W.eq (g2 := F0 m 4 ls []) rfl ?_
  refine lv_aload_n hx hb dX0_init_4 rfl (lv_at hl 0 rfl) ?_
  refine lv_sipush (v := 720) hx hb dX0_init_5 (by decide) ?_
  refine z_newa 27 ad (atype := .int) (ty := .int) (N' := 720) hx hb (hts (.arrayClass .int) (List.mem_of_getElem? (i := 4) rfl)) rfl hK (by simp [z_tys]) hW hS hA hz.symm (fun _ _ => rfl) (fun _ => rfl) (by decide) rfl (Nat.le_of_ble_eq_true rfl) (Nat.le_of_ble_eq_true rfl) (Nat.le_of_ble_eq_true rfl) dX0_init_8 (fun H hz1 hW hS => ?_)
  have hz : H.size = ad 28 := hz1.trans ((congrArg (· + 1) hz).trans (had 1 _).symm)
  have hW : z_W _ A (shSX53, ad, ISX1, z_J0, (PSX51 ad)) H := hW
  refine z_putF (T := TX0) (N := 5) (ci := 0) (i := 26) (v := .ref (ad 27)) (I1 := ISX1) (J1 := z_J0) (P1 := (PSX54 ad)) hx hb hts zi_X0_init_X0 tyX0 tyX0_ok nmX0 hown hK hW hS hs_shSX53_26 rfl 0 (by decide) (hts (.fieldLink RX0 9 "PetrolBoard$Coupons" "issued" "[I") (List.mem_of_getElem? (i := 5) rfl)) (fun _ h => h) rfl hname rfl rfl rfl (by first | rfl | exact congrArg _ z_up_s) (fun a b h ty => z_vP h ty) dX0_init_10 (fun H locs hz1 hW hS => ?_)
  have hz : H.size = ad 28 := hz1.trans hz
  refine lv_aload_n hx hb dX0_init_13 rfl (lv_at hl 0 rfl) ?_
  refine lv_sipush (v := 512) hx hb dX0_init_14 (by decide) ?_
  refine z_newa 28 ad (atype := .int) (ty := .int) (N' := 512) hx hb (hts (.arrayClass .int) (List.mem_of_getElem? (i := 4) rfl)) rfl hK (by simp [z_tys]) hW hS hA hz.symm (fun _ _ => rfl) (fun _ => rfl) (by decide) rfl (Nat.le_of_ble_eq_true rfl) (Nat.le_of_ble_eq_true rfl) (Nat.le_of_ble_eq_true rfl) dX0_init_17 (fun H hz1 hW hS => ?_)
  have hz : H.size = ad 29 := hz1.trans ((congrArg (· + 1) hz).trans (had 1 _).symm)
  have hW : z_W _ A (shSX55, ad, ISX1, z_J0, (PSX54 ad)) H := hW
  refine z_putF (T := TX0) (N := 5) (ci := 0) (i := 26) (v := .ref (ad 28)) (I1 := ISX1) (J1 := z_J0) (P1 := (PSX56 ad)) hx hb hts zi_X0_init_X0 tyX0 tyX0_ok nmX0 hown hK hW hS hs_shSX55_26 rfl 1 (by decide) (hts (.fieldLink RX0 15 "PetrolBoard$Coupons" "lent" "[I") (List.mem_of_getElem? (i := 6) rfl)) (fun _ h => h) rfl hname rfl rfl rfl (by first | rfl | exact congrArg _ z_up_s) (fun a b h ty => z_vP h ty) dX0_init_19 (fun H locs hz1 hW hS => ?_)
  have hz : H.size = ad 29 := hz1.trans hz
  refine lv_aload_n hx hb dX0_init_22 rfl (lv_at hl 0 rfl) ?_
  refine lv_sipush (v := 512) hx hb dX0_init_23 (by decide) ?_
  refine z_newa 29 ad (atype := .int) (ty := .int) (N' := 512) hx hb (hts (.arrayClass .int) (List.mem_of_getElem? (i := 4) rfl)) rfl hK (by simp [z_tys]) hW hS hA hz.symm (fun _ _ => rfl) (fun _ => rfl) (by decide) rfl (Nat.le_of_ble_eq_true rfl) (Nat.le_of_ble_eq_true rfl) (Nat.le_of_ble_eq_true rfl) dX0_init_26 (fun H hz1 hW hS => ?_)
  have hz : H.size = ad 30 := hz1.trans ((congrArg (· + 1) hz).trans (had 1 _).symm)
  have hW : z_W _ A (shSX57, ad, ISX1, z_J0, (PSX56 ad)) H := hW
  refine z_putF (T := TX0) (N := 5) (ci := 0) (i := 26) (v := .ref (ad 29)) (I1 := ISX1) (J1 := z_J0) (P1 := (PSX58 ad)) hx hb hts zi_X0_init_X0 tyX0 tyX0_ok nmX0 hown hK hW hS hs_shSX57_26 rfl 2 (by decide) (hts (.fieldLink RX0 18 "PetrolBoard$Coupons" "lentTo" "[I") (List.mem_of_getElem? (i := 7) rfl)) (fun _ h => h) rfl hname rfl rfl rfl (by first | rfl | exact congrArg _ z_up_s) (fun a b h ty => z_vP h ty) dX0_init_28 (fun H locs hz1 hW hS => ?_)
  have hz : H.size = ad 30 := hz1.trans hz
  refine lv_aload_n hx hb dX0_init_31 rfl (lv_at hl 0 rfl) ?_
  refine z_get (T := TX0) (N := 5) (ci := 0) (i := 26) (v := .ref (ad 27)) hx hb hts zi_X0_init_X0 hown hK hW hs_shSX57_26 rfl 0 (by decide) (hts (.fieldLink RX0 9 "PetrolBoard$Coupons" "issued" "[I") (List.mem_of_getElem? (i := 5) rfl)) (fun _ h => h) rfl dX0_init_32 ?_
  refine lv_iconst (v := (-1)) hx hb dX0_init_35 (by decide) ?_
  refine z_cc hW hS hA (va_runS (As := [.ref (ad 27), .int (-1)]) (rest := []) ⟨hx, hb, hml, hown, hts⟩ (ct_fill l G 27 720 (-1) rfl (by decide) _) (va_cwS 2 hts gX0_init_J7_fill_53178 rfl rfl rfl (by decide +kernel) ⟨Nat.le_of_ble_eq_true rfl, Nat.le_of_ble_eq_true rfl⟩) (z_preS hK hW) rfl rfl hl.1 rfl (lv_room (Nat.le_of_ble_eq_true rfl)) dX0_init_36 ⟨Nat.le_of_ble_eq_true rfl, Nat.le_of_ble_eq_true rfl⟩) (fun H locs hz1 hW hS => ?_)
  have hW : z_W _ A (shSX57, ad, ISX59, z_J0, (PSX58 ad)) H := hW
  have hz : H.size = ad 30 := hz1.trans hz
  exact z_cret hx hb hr hK hS (Nat.le_of_ble_eq_true rfl) (Nat.le_of_ble_eq_true rfl) hlocks dX0_init_39 (hz.trans ((had 3 27).trans (congrArg (· + 3) hz0.symm))) hW
theorem hs_shSX57_0 : shSX57 0 = some (.inr 11) := by rfl
noncomputable def PSX60 (ad : Nat → Nat) : z_P := z_up (PSX58 ad) 0 5 (some (ad 26))
noncomputable def shSX61 : Nat → Option z_S := z_sh shSX57 30 (.inr 8)
noncomputable def shSX62 : Nat → Option z_S := z_sh shSX61 31 (.inl (.int, 300))
theorem hs_shSX62_30 : shSX62 30 = some (.inr 8) := rfl
noncomputable def PSX63 (ad : Nat → Nat) : z_P := z_up (PSX60 ad) 30 0 (some (ad 31))
noncomputable def shSX64 : Nat → Option z_S := z_sh shSX62 32 (.inl (.int, 300))
theorem hs_shSX64_30 : shSX64 30 = some (.inr 8) := hs_shSX62_30
noncomputable def PSX65 (ad : Nat → Nat) : z_P := z_up (PSX63 ad) 30 1 (some (ad 32))
noncomputable def shSX66 : Nat → Option z_S := z_sh shSX64 33 (.inl (.int, 300))
theorem hs_shSX66_30 : shSX66 30 = some (.inr 8) := hs_shSX64_30
noncomputable def PSX67 (ad : Nat → Nat) : z_P := z_up (PSX65 ad) 30 2 (some (ad 33))
noncomputable def shSX68 : Nat → Option z_S := z_sh shSX66 34 (.inl (.int, 300))
theorem hs_shSX68_30 : shSX68 30 = some (.inr 8) := hs_shSX66_30
noncomputable def PSX69 (ad : Nat → Nat) : z_P := z_up (PSX67 ad) 30 3 (some (ad 34))
noncomputable def shSX70 : Nat → Option z_S := z_sh shSX68 35 (.inl (.int, 300))
theorem hs_shSX70_30 : shSX70 30 = some (.inr 8) := hs_shSX68_30
noncomputable def PSX71 (ad : Nat → Nat) : z_P := z_up (PSX69 ad) 30 4 (some (ad 35))
noncomputable def shSX72 : Nat → Option z_S := z_sh shSX70 36 (.inl (.int, 300))
theorem hs_shSX72_30 : shSX72 30 = some (.inr 8) := hs_shSX70_30
noncomputable def PSX73 (ad : Nat → Nat) : z_P := z_up (PSX71 ad) 30 5 (some (ad 36))
noncomputable def shSX74 : Nat → Option z_S := z_sh shSX72 37 (.inl (.int, 300))
theorem hs_shSX74_30 : shSX74 30 = some (.inr 8) := hs_shSX72_30
noncomputable def PSX75 (ad : Nat → Nat) : z_P := z_up (PSX73 ad) 30 6 (some (ad 37))
noncomputable def shSX76 : Nat → Option z_S := z_sh shSX74 38 (.inl (.int, 300))
theorem hs_shSX76_30 : shSX76 30 = some (.inr 8) := hs_shSX74_30
noncomputable def PSX77 (ad : Nat → Nat) : z_P := z_up (PSX75 ad) 30 7 (some (ad 38))
theorem zi_X8_init_X8 : ∀ w ∈ wsX80, w ∈ wsX8_init := fun w h => (List.mem_cons_of_mem _ (List.mem_append_right _ h))
set_option maxHeartbeats 8000000 in
set_option maxRecDepth 100000 in
theorem ct_X8_init (l : Launch) (G : z_G) (ad : Nat → Nat) (had : ∀ k i, ad (i + k) = ad i + k) (sz : Nat) (hz : sz = ad 31) : z_Mc l yX8_init wsX8_init { frames := 1, cells := 8, slots := 2400, locals := 12 } [.ref (ad 30)] G (shSX61, ad, ISX59, z_J0, (PSX60 ad)) (shSX76, ad, ISX59, z_J0, (PSX77 ad)) 8 8 2400 sz := by
  refine z_headQ (cc := cX8_init) (maxL := 1) (ret := none) (by decide) rfl (Nat.le_of_ble_eq_true rfl) ?_
  intro p e s m below meth c ls hIn hK hsz hW hl
  obtain ⟨hx, hb, hr, hml, hown, hts, hlocks, hname⟩ := hIn
  subst hsz
  have hz0 := hz
  have hown : s.vm.findClass RX8 = some m.cls := hown
  have hname : meth.name = "<init>" := hname
  have hA : ∀ q : Nat, s.heap.size ≤ q → z_A (shSX61, ad, ISX59, z_J0, (PSX60 ad)) s.heap.size q := fun q h => Or.inr h
  generalize hAe : z_A (shSX61, ad, ISX59, z_J0, (PSX60 ad)) s.heap.size = A at *
  have hS : va_S A s.heap s.heap [] := va_S.rf
  have hl : lv_has ls 1 [(0, .ref (ad 30))] := hl
  refine lv_aload_n hx hb dX8_init_0 rfl (lv_at hl 0 rfl) ?_
  refine W.objInit hx hb hown (hts (.methodLink RX8 3 objectInit) (List.mem_of_getElem? (i := 1) rfl)) (hts (.instanceMethod objectInit) (List.mem_of_getElem? (i := 2) rfl)) (hts (.code objectInit ⟨#[0xb1]⟩ 1 none) (List.mem_of_getElem? (i := 3) rfl)) rfl (by rw [hml]; exact hl.1) rfl dX8_init_1 (Nat.le_of_ble_eq_true rfl) (Nat.le_of_ble_eq_true rfl) ?_
  refine W.eq (g2 := F0 m 4 ls []) rfl ?_
  refine lv_aload_n hx hb dX8_init_4 rfl (lv_at hl 0 rfl) ?_
  refine lv_sipush (v := 300) hx hb dX8_init_5 (by decide) ?_
  refine z_newa 31 ad (atype := .int) (ty := .int) (N' := 300) hx hb (hts (.arrayClass .int) (List.mem_of_getElem? (i := 4) rfl)) rfl hK (by simp [z_tys]) hW hS hA hz.symm (fun _ _ => rfl) (fun _ => rfl) (by decide) rfl (Nat.le_of_ble_eq_true rfl) (Nat.le_of_ble_eq_true rfl) (Nat.le_of_ble_eq_true rfl) dX8_init_8 (fun H hz1 hW hS => ?_)
  have hz : H.size = ad 32 := hz1.trans ((congrArg (· + 1) hz).trans (had 1 _).symm)
  have hW : z_W _ A (shSX62, ad, ISX59, z_J0, (PSX60 ad)) H := hW
  refine z_putF (T := TX8) (N := 9) (ci := 8) (i := 30) (v := .ref (ad 31)) (I1 := ISX59) (J1 := z_J0) (P1 := (PSX63 ad)) hx hb hts zi_X8_init_X8 tyX8 tyX8_ok nmX8 hown hK hW hS hs_shSX62_30 rfl 0 (by decide) (hts (.fieldLink RX8 9 "PetrolBoard$Pours" "station" "[I") (List.mem_of_getElem? (i := 5) rfl)) (fun _ h => h) rfl hname rfl rfl rfl (by first | rfl | exact congrArg _ z_up_s) (fun a b h ty => z_vP h ty) dX8_init_10 (fun H locs hz1 hW hS => ?_)
  have hz : H.size = ad 32 := hz1.trans hz
  refine lv_aload_n hx hb dX8_init_13 rfl (lv_at hl 0 rfl) ?_
  refine lv_sipush (v := 300) hx hb dX8_init_14 (by decide) ?_
  refine z_newa 32 ad (atype := .int) (ty := .int) (N' := 300) hx hb (hts (.arrayClass .int) (List.mem_of_getElem? (i := 4) rfl)) rfl hK (by simp [z_tys]) hW hS hA hz.symm (fun _ _ => rfl) (fun _ => rfl) (by decide) rfl (Nat.le_of_ble_eq_true rfl) (Nat.le_of_ble_eq_true rfl) (Nat.le_of_ble_eq_true rfl) dX8_init_17 (fun H hz1 hW hS => ?_)
  have hz : H.size = ad 33 := hz1.trans ((congrArg (· + 1) hz).trans (had 1 _).symm)
  have hW : z_W _ A (shSX64, ad, ISX59, z_J0, (PSX63 ad)) H := hW
  refine z_putF (T := TX8) (N := 9) (ci := 8) (i := 30) (v := .ref (ad 32)) (I1 := ISX59) (J1 := z_J0) (P1 := (PSX65 ad)) hx hb hts zi_X8_init_X8 tyX8 tyX8_ok nmX8 hown hK hW hS hs_shSX64_30 rfl 1 (by decide) (hts (.fieldLink RX8 15 "PetrolBoard$Pours" "holder" "[I") (List.mem_of_getElem? (i := 6) rfl)) (fun _ h => h) rfl hname rfl rfl rfl (by first | rfl | exact congrArg _ z_up_s) (fun a b h ty => z_vP h ty) dX8_init_19 (fun H locs hz1 hW hS => ?_)
  have hz : H.size = ad 33 := hz1.trans hz
  refine lv_aload_n hx hb dX8_init_22 rfl (lv_at hl 0 rfl) ?_
  refine lv_sipush (v := 300) hx hb dX8_init_23 (by decide) ?_
  refine z_newa 33 ad (atype := .int) (ty := .int) (N' := 300) hx hb (hts (.arrayClass .int) (List.mem_of_getElem? (i := 4) rfl)) rfl hK (by simp [z_tys]) hW hS hA hz.symm (fun _ _ => rfl) (fun _ => rfl) (by decide) rfl (Nat.le_of_ble_eq_true rfl) (Nat.le_of_ble_eq_true rfl) (Nat.le_of_ble_eq_true rfl) dX8_init_26 (fun H hz1 hW hS => ?_)
  have hz : H.size = ad 34 := hz1.trans ((congrArg (· + 1) hz).trans (had 1 _).symm)
  have hW : z_W _ A (shSX66, ad, ISX59, z_J0, (PSX65 ad)) H := hW
  refine z_putF (T := TX8) (N := 9) (ci := 8) (i := 30) (v := .ref (ad 33)) (I1 := ISX59) (J1 := z_J0) (P1 := (PSX67 ad)) hx hb hts zi_X8_init_X8 tyX8 tyX8_ok nmX8 hown hK hW hS hs_shSX66_30 rfl 2 (by decide) (hts (.fieldLink RX8 18 "PetrolBoard$Pours" "coupon" "[I") (List.mem_of_getElem? (i := 7) rfl)) (fun _ h => h) rfl hname rfl rfl rfl (by first | rfl | exact congrArg _ z_up_s) (fun a b h ty => z_vP h ty) dX8_init_28 (fun H locs hz1 hW hS => ?_)
  have hz : H.size = ad 34 := hz1.trans hz
  refine lv_aload_n hx hb dX8_init_31 rfl (lv_at hl 0 rfl) ?_
  refine lv_sipush (v := 300) hx hb dX8_init_32 (by decide) ?_
  refine z_newa 34 ad (atype := .int) (ty := .int) (N' := 300) hx hb (hts (.arrayClass .int) (List.mem_of_getElem? (i := 4) rfl)) rfl hK (by simp [z_tys]) hW hS hA hz.symm (fun _ _ => rfl) (fun _ => rfl) (by decide) rfl (Nat.le_of_ble_eq_true rfl) (Nat.le_of_ble_eq_true rfl) (Nat.le_of_ble_eq_true rfl) dX8_init_35 (fun H hz1 hW hS => ?_)
  have hz : H.size = ad 35 := hz1.trans ((congrArg (· + 1) hz).trans (had 1 _).symm)
  have hW : z_W _ A (shSX68, ad, ISX59, z_J0, (PSX67 ad)) H := hW
  refine z_putF (T := TX8) (N := 9) (ci := 8) (i := 30) (v := .ref (ad 34)) (I1 := ISX59) (J1 := z_J0) (P1 := (PSX69 ad)) hx hb hts zi_X8_init_X8 tyX8 tyX8_ok nmX8 hown hK hW hS hs_shSX68_30 rfl 3 (by decide) (hts (.fieldLink RX8 21 "PetrolBoard$Pours" "day" "[I") (List.mem_of_getElem? (i := 8) rfl)) (fun _ h => h) rfl hname rfl rfl rfl (by first | rfl | exact congrArg _ z_up_s) (fun a b h ty => z_vP h ty) dX8_init_37 (fun H locs hz1 hW hS => ?_)
  have hz : H.size = ad 35 := hz1.trans hz
  refine lv_aload_n hx hb dX8_init_40 rfl (lv_at hl 0 rfl) ?_
  refine lv_sipush (v := 300) hx hb dX8_init_41 (by decide) ?_
  refine z_newa 35 ad (atype := .int) (ty := .int) (N' := 300) hx hb (hts (.arrayClass .int) (List.mem_of_getElem? (i := 4) rfl)) rfl hK (by simp [z_tys]) hW hS hA hz.symm (fun _ _ => rfl) (fun _ => rfl) (by decide) rfl (Nat.le_of_ble_eq_true rfl) (Nat.le_of_ble_eq_true rfl) (Nat.le_of_ble_eq_true rfl) dX8_init_44 (fun H hz1 hW hS => ?_)
  have hz : H.size = ad 36 := hz1.trans ((congrArg (· + 1) hz).trans (had 1 _).symm)
  have hW : z_W _ A (shSX70, ad, ISX59, z_J0, (PSX69 ad)) H := hW
  refine z_putF (T := TX8) (N := 9) (ci := 8) (i := 30) (v := .ref (ad 35)) (I1 := ISX59) (J1 := z_J0) (P1 := (PSX71 ad)) hx hb hts zi_X8_init_X8 tyX8 tyX8_ok nmX8 hown hK hW hS hs_shSX70_30 rfl 4 (by decide) (hts (.fieldLink RX8 24 "PetrolBoard$Pours" "tenths" "[I") (List.mem_of_getElem? (i := 9) rfl)) (fun _ h => h) rfl hname rfl rfl rfl (by first | rfl | exact congrArg _ z_up_s) (fun a b h ty => z_vP h ty) dX8_init_46 (fun H locs hz1 hW hS => ?_)
  have hz : H.size = ad 36 := hz1.trans hz
  refine lv_aload_n hx hb dX8_init_49 rfl (lv_at hl 0 rfl) ?_
  refine lv_sipush (v := 300) hx hb dX8_init_50 (by decide) ?_
  refine z_newa 36 ad (atype := .int) (ty := .int) (N' := 300) hx hb (hts (.arrayClass .int) (List.mem_of_getElem? (i := 4) rfl)) rfl hK (by simp [z_tys]) hW hS hA hz.symm (fun _ _ => rfl) (fun _ => rfl) (by decide) rfl (Nat.le_of_ble_eq_true rfl) (Nat.le_of_ble_eq_true rfl) (Nat.le_of_ble_eq_true rfl) dX8_init_53 (fun H hz1 hW hS => ?_)
  have hz : H.size = ad 37 := hz1.trans ((congrArg (· + 1) hz).trans (had 1 _).symm)
  have hW : z_W _ A (shSX72, ad, ISX59, z_J0, (PSX71 ad)) H := hW
  refine z_putF (T := TX8) (N := 9) (ci := 8) (i := 30) (v := .ref (ad 36)) (I1 := ISX59) (J1 := z_J0) (P1 := (PSX73 ad)) hx hb hts zi_X8_init_X8 tyX8 tyX8_ok nmX8 hown hK hW hS hs_shSX72_30 rfl 5 (by decide) (hts (.fieldLink RX8 27 "PetrolBoard$Pours" "verdict" "[I") (List.mem_of_getElem? (i := 10) rfl)) (fun _ h => h) rfl hname rfl rfl rfl (by first | rfl | exact congrArg _ z_up_s) (fun a b h ty => z_vP h ty) dX8_init_55 (fun H locs hz1 hW hS => ?_)
  have hz : H.size = ad 37 := hz1.trans hz
  refine lv_aload_n hx hb dX8_init_58 rfl (lv_at hl 0 rfl) ?_
  refine lv_sipush (v := 300) hx hb dX8_init_59 (by decide) ?_
  refine z_newa 37 ad (atype := .int) (ty := .int) (N' := 300) hx hb (hts (.arrayClass .int) (List.mem_of_getElem? (i := 4) rfl)) rfl hK (by simp [z_tys]) hW hS hA hz.symm (fun _ _ => rfl) (fun _ => rfl) (by decide) rfl (Nat.le_of_ble_eq_true rfl) (Nat.le_of_ble_eq_true rfl) (Nat.le_of_ble_eq_true rfl) dX8_init_62 (fun H hz1 hW hS => ?_)
  have hz : H.size = ad 38 := hz1.trans ((congrArg (· + 1) hz).trans (had 1 _).symm)
  have hW : z_W _ A (shSX74, ad, ISX59, z_J0, (PSX73 ad)) H := hW
  refine z_putF (T := TX8) (N := 9) (ci := 8) (i := 30) (v := .ref (ad 37)) (I1 := ISX59) (J1 := z_J0) (P1 := (PSX75 ad)) hx hb hts zi_X8_init_X8 tyX8 tyX8_ok nmX8 hown hK hW hS hs_shSX74_30 rfl 6 (by decide) (hts (.fieldLink RX8 30 "PetrolBoard$Pours" "dyed" "[I") (List.mem_of_getElem? (i := 11) rfl)) (fun _ h => h) rfl hname rfl rfl rfl (by first | rfl | exact congrArg _ z_up_s) (fun a b h ty => z_vP h ty) dX8_init_64 (fun H locs hz1 hW hS => ?_)
  have hz : H.size = ad 38 := hz1.trans hz
  refine lv_aload_n hx hb dX8_init_67 rfl (lv_at hl 0 rfl) ?_
  refine lv_sipush (v := 300) hx hb dX8_init_68 (by decide) ?_
  refine z_newa 38 ad (atype := .int) (ty := .int) (N' := 300) hx hb (hts (.arrayClass .int) (List.mem_of_getElem? (i := 4) rfl)) rfl hK (by simp [z_tys]) hW hS hA hz.symm (fun _ _ => rfl) (fun _ => rfl) (by decide) rfl (Nat.le_of_ble_eq_true rfl) (Nat.le_of_ble_eq_true rfl) (Nat.le_of_ble_eq_true rfl) dX8_init_71 (fun H hz1 hW hS => ?_)
  have hz : H.size = ad 39 := hz1.trans ((congrArg (· + 1) hz).trans (had 1 _).symm)
  have hW : z_W _ A (shSX76, ad, ISX59, z_J0, (PSX75 ad)) H := hW
  refine z_putF (T := TX8) (N := 9) (ci := 8) (i := 30) (v := .ref (ad 38)) (I1 := ISX59) (J1 := z_J0) (P1 := (PSX77 ad)) hx hb hts zi_X8_init_X8 tyX8 tyX8_ok nmX8 hown hK hW hS hs_shSX76_30 rfl 7 (by decide) (hts (.fieldLink RX8 33 "PetrolBoard$Pours" "ownerThen" "[I") (List.mem_of_getElem? (i := 12) rfl)) (fun _ h => h) rfl hname rfl rfl rfl (by first | rfl | exact congrArg _ z_up_s) (fun a b h ty => z_vP h ty) dX8_init_73 (fun H locs hz1 hW hS => ?_)
  have hz : H.size = ad 39 := hz1.trans hz
  exact z_cret hx hb hr hK hS (Nat.le_of_ble_eq_true rfl) (Nat.le_of_ble_eq_true rfl) hlocks dX8_init_76 (hz.trans ((had 8 31).trans (congrArg (· + 8) hz0.symm))) hW
theorem hs_shSX76_0 : shSX76 0 = some (.inr 11) := by rfl
noncomputable def PSX78 (ad : Nat → Nat) : z_P := z_up (PSX77 ad) 0 6 (some (ad 30))
noncomputable def shSX79 : Nat → Option z_S := z_sh shSX76 39 (.inl (.object RX10, 10))
theorem hs_shSX79_0 : shSX79 0 = some (.inr 11) := hs_shSX76_0
noncomputable def PSX80 (ad : Nat → Nat) : z_P := z_up (PSX78 ad) 0 7 (some (ad 39))
noncomputable def shSX81 : Nat → Option z_S := z_sh shSX79 40 (.inl (.int, 30))
theorem hs_shSX81_0 : shSX81 0 = some (.inr 11) := hs_shSX79_0
noncomputable def PSX82 (ad : Nat → Nat) : z_P := z_up (PSX80 ad) 0 9 (some (ad 40))
noncomputable def shSX83 : Nat → Option z_S := z_sh shSX81 41 (.inr 4)
noncomputable def shSX84 : Nat → Option z_S := z_sh shSX83 42 (.inl (.int, 4))
theorem hs_shSX84_41 : shSX84 41 = some (.inr 4) := rfl
noncomputable def PSX85 (ad : Nat → Nat) : z_P := z_up (PSX82 ad) 41 0 (some (ad 42))
noncomputable def shSX86 : Nat → Option z_S := z_sh shSX84 43 (.inl (.int, 10))
theorem hs_shSX86_41 : shSX86 41 = some (.inr 4) := hs_shSX84_41
noncomputable def PSX87 (ad : Nat → Nat) : z_P := z_up (PSX85 ad) 41 1 (some (ad 43))
noncomputable def shSX88 : Nat → Option z_S := z_shr (z_sh shSX86 44 (.inl (.array .int, 4))) 44 10 4
theorem hs_shSX88_41 : shSX88 41 = some (.inr 4) := hs_shSX86_41
noncomputable def PSX89 (ad : Nat → Nat) : z_P := z_pr (PSX87 ad) 44 ad
noncomputable def PSX90 (ad : Nat → Nat) : z_P := z_up (PSX89 ad) 41 2 (some (ad 44))
noncomputable def shSX91 : Nat → Option z_S := z_shr (z_sh shSX88 49 (.inl (.array .int, 4))) 49 10 4
theorem hs_shSX91_41 : shSX91 41 = some (.inr 4) := hs_shSX88_41
noncomputable def PSX92 (ad : Nat → Nat) : z_P := z_pr (PSX90 ad) 49 ad
noncomputable def PSX93 (ad : Nat → Nat) : z_P := z_up (PSX92 ad) 41 3 (some (ad 49))
noncomputable def shSX94 : Nat → Option z_S := z_sh shSX91 54 (.inl (.int, 4))
theorem hs_shSX94_41 : shSX94 41 = some (.inr 4) := hs_shSX91_41
noncomputable def PSX95 (ad : Nat → Nat) : z_P := z_up (PSX93 ad) 41 4 (some (ad 54))
noncomputable def shSX96 : Nat → Option z_S := z_sh shSX94 55 (.inl (.int, 10))
theorem hs_shSX96_41 : shSX96 41 = some (.inr 4) := hs_shSX94_41
noncomputable def PSX97 (ad : Nat → Nat) : z_P := z_up (PSX95 ad) 41 5 (some (ad 55))
noncomputable def shSX98 : Nat → Option z_S := z_sh shSX96 56 (.inl (.int, 4))
theorem hs_shSX98_41 : shSX98 41 = some (.inr 4) := hs_shSX96_41
noncomputable def PSX99 (ad : Nat → Nat) : z_P := z_up (PSX97 ad) 41 6 (some (ad 56))
noncomputable def shSX100 : Nat → Option z_S := z_sh shSX98 57 (.inl (.int, 10))
theorem hs_shSX100_41 : shSX100 41 = some (.inr 4) := hs_shSX98_41
noncomputable def PSX101 (ad : Nat → Nat) : z_P := z_up (PSX99 ad) 41 7 (some (ad 57))
noncomputable def shSX102 : Nat → Option z_S := z_sh shSX100 58 (.inl (.int, 10))
theorem hs_shSX102_41 : shSX102 41 = some (.inr 4) := hs_shSX100_41
noncomputable def PSX103 (ad : Nat → Nat) : z_P := z_up (PSX101 ad) 41 8 (some (ad 58))
noncomputable def shSX104 : Nat → Option z_S := z_sh shSX102 59 (.inl (.int, 4))
theorem hs_shSX104_41 : shSX104 41 = some (.inr 4) := hs_shSX102_41
noncomputable def PSX105 (ad : Nat → Nat) : z_P := z_up (PSX103 ad) 41 9 (some (ad 59))
theorem zi_X4_init_X4 : ∀ w ∈ wsX40, w ∈ wsX4_init := fun w h => (List.mem_cons_of_mem _ (List.mem_append_right _ h))
set_option maxHeartbeats 8000000 in
set_option maxRecDepth 100000 in
theorem ct_X4_init (l : Launch) (G : z_G) (ad : Nat → Nat) (had : ∀ k i, ad (i + k) = ad i + k) (sz : Nat) (hz : sz = ad 42) : z_Mc l yX4_init wsX4_init { frames := 1, cells := 18, slots := 144, locals := 12 } [.ref (ad 41)] G (shSX83, ad, ISX59, z_J0, (PSX82 ad)) (shSX104, ad, ISX59, z_J0, (PSX105 ad)) 18 18 144 sz := by
  refine z_headQ (cc := cX4_init) (maxL := 1) (ret := none) (by decide) rfl (Nat.le_of_ble_eq_true rfl) ?_
  intro p e s m below meth c ls hIn hK hsz hW hl
  obtain ⟨hx, hb, hr, hml, hown, hts, hlocks, hname⟩ := hIn
  subst hsz
  have hz0 := hz
  have hown : s.vm.findClass RX4 = some m.cls := hown
  have hname : meth.name = "<init>" := hname
  have hA : ∀ q : Nat, s.heap.size ≤ q → z_A (shSX83, ad, ISX59, z_J0, (PSX82 ad)) s.heap.size q := fun q h => Or.inr h
  generalize hAe : z_A (shSX83, ad, ISX59, z_J0, (PSX82 ad)) s.heap.size = A at *
  have hS : va_S A s.heap s.heap [] := va_S.rf
  have hl : lv_has ls 1 [(0, .ref (ad 41))] := hl
  refine lv_aload_n hx hb dX4_init_0 rfl (lv_at hl 0 rfl) ?_
  refine W.objInit hx hb hown (hts (.methodLink RX4 3 objectInit) (List.mem_of_getElem? (i := 1) rfl)) (hts (.instanceMethod objectInit) (List.mem_of_getElem? (i := 2) rfl)) (hts (.code objectInit ⟨#[0xb1]⟩ 1 none) (List.mem_of_getElem? (i := 3) rfl)) rfl (by rw [hml]; exact hl.1) rfl dX4_init_1 (Nat.le_of_ble_eq_true rfl) (Nat.le_of_ble_eq_true rfl) ?_
  refine W.eq (g2 := F0 m 4 ls []) rfl ?_
  refine lv_aload_n hx hb dX4_init_4 rfl (lv_at hl 0 rfl) ?_
  refine lv_iconst (v := 4) hx hb dX4_init_5 (by decide) ?_
  refine z_newa 42 ad (atype := .int) (ty := .int) (N' := 4) hx hb (hts (.arrayClass .int) (List.mem_of_getElem? (i := 4) rfl)) rfl hK (by simp [z_tys]) hW hS hA hz.symm (fun _ _ => rfl) (fun _ => rfl) (by decide) rfl (Nat.le_of_ble_eq_true rfl) (Nat.le_of_ble_eq_true rfl) (Nat.le_of_ble_eq_true rfl) dX4_init_6 (fun H hz1 hW hS => ?_)
  have hz : H.size = ad 43 := hz1.trans ((congrArg (· + 1) hz).trans (had 1 _).symm)
  have hW : z_W _ A (shSX84, ad, ISX59, z_J0, (PSX82 ad)) H := hW
  refine z_putF (T := TX4) (N := 13) (ci := 4) (i := 41) (v := .ref (ad 42)) (I1 := ISX59) (J1 := z_J0) (P1 := (PSX85 ad)) hx hb hts zi_X4_init_X4 tyX4 tyX4_ok nmX4 hown hK hW hS hs_shSX84_41 rfl 0 (by decide) (hts (.fieldLink RX4 9 "PetrolBoard$Loads" "inPort" "[I") (List.mem_of_getElem? (i := 5) rfl)) (fun _ h => h) rfl hname rfl rfl rfl (by first | rfl | exact congrArg _ z_up_s) (fun a b h ty => z_vP h ty) dX4_init_8 (fun H locs hz1 hW hS => ?_)
  have hz : H.size = ad 43 := hz1.trans hz
  refine lv_aload_n hx hb dX4_init_11 rfl (lv_at hl 0 rfl) ?_
  refine lv_bipush (v := 10) hx hb dX4_init_12 (by decide) ?_
  refine z_newa 43 ad (atype := .int) (ty := .int) (N' := 10) hx hb (hts (.arrayClass .int) (List.mem_of_getElem? (i := 4) rfl)) rfl hK (by simp [z_tys]) hW hS hA hz.symm (fun _ _ => rfl) (fun _ => rfl) (by decide) rfl (Nat.le_of_ble_eq_true rfl) (Nat.le_of_ble_eq_true rfl) (Nat.le_of_ble_eq_true rfl) dX4_init_14 (fun H hz1 hW hS => ?_)
  have hz : H.size = ad 44 := hz1.trans ((congrArg (· + 1) hz).trans (had 1 _).symm)
  have hW : z_W _ A (shSX86, ad, ISX59, z_J0, (PSX85 ad)) H := hW
  refine z_putF (T := TX4) (N := 13) (ci := 4) (i := 41) (v := .ref (ad 43)) (I1 := ISX59) (J1 := z_J0) (P1 := (PSX87 ad)) hx hb hts zi_X4_init_X4 tyX4 tyX4_ok nmX4 hown hK hW hS hs_shSX86_41 rfl 1 (by decide) (hts (.fieldLink RX4 15 "PetrolBoard$Loads" "wanted" "[I") (List.mem_of_getElem? (i := 6) rfl)) (fun _ h => h) rfl hname rfl rfl rfl (by first | rfl | exact congrArg _ z_up_s) (fun a b h ty => z_vP h ty) dX4_init_16 (fun H locs hz1 hW hS => ?_)
  have hz : H.size = ad 44 := hz1.trans hz
  refine lv_aload_n hx hb dX4_init_19 rfl (lv_at hl 0 rfl) ?_
  refine lv_iconst (v := 4) hx hb dX4_init_20 (by decide) ?_
  refine lv_bipush (v := 10) hx hb dX4_init_21 (by decide) ?_
  refine z_mna 44 (N' := 4) (K' := 10) hx hb hown (hts (.classLink RX4 18 "[[I") (List.mem_of_getElem? (i := 7) rfl)) (hts (.arrayClass .int) (List.mem_of_getElem? (i := 4) rfl)) hK hW hS hA had hz.symm (fun a b h => hI_ISX59 a b (by omega)) (fun _ => rfl) (by decide) (by decide) rfl rfl (Nat.le_of_ble_eq_true rfl) (Nat.le_of_ble_eq_true rfl) (Nat.le_of_ble_eq_true rfl) (Nat.le_of_ble_eq_true rfl) (Nat.le_of_ble_eq_true rfl) dX4_init_23 (fun H hz1 hW hS => ?_)
  have hz : H.size = ad 49 := hz1.trans ((congrArg (· + 5) hz).trans (had 5 _).symm)
  have hW : z_W _ A (shSX88, ad, ISX59, z_J0, (PSX89 ad)) H := hW
  refine z_putF (T := TX4) (N := 13) (ci := 4) (i := 41) (v := .ref (ad 44)) (I1 := ISX59) (J1 := z_J0) (P1 := (PSX90 ad)) hx hb hts zi_X4_init_X4 tyX4 tyX4_ok nmX4 hown hK hW hS hs_shSX88_41 rfl 2 (by decide) (hts (.fieldLink RX4 20 "PetrolBoard$Loads" "miles" "[[I") (List.mem_of_getElem? (i := 8) rfl)) (fun _ h => h) rfl hname rfl rfl rfl (by first | rfl | exact congrArg _ z_up_s) (fun a b h ty => z_vP h ty) dX4_init_27 (fun H locs hz1 hW hS => ?_)
  have hz : H.size = ad 49 := hz1.trans hz
  refine lv_aload_n hx hb dX4_init_30 rfl (lv_at hl 0 rfl) ?_
  refine lv_iconst (v := 4) hx hb dX4_init_31 (by decide) ?_
  refine lv_bipush (v := 10) hx hb dX4_init_32 (by decide) ?_
  refine z_mna 49 (N' := 4) (K' := 10) hx hb hown (hts (.classLink RX4 18 "[[I") (List.mem_of_getElem? (i := 7) rfl)) (hts (.arrayClass .int) (List.mem_of_getElem? (i := 4) rfl)) hK hW hS hA had hz.symm (fun a b h => hI_ISX59 a b (by omega)) (fun _ => rfl) (by decide) (by decide) rfl rfl (Nat.le_of_ble_eq_true rfl) (Nat.le_of_ble_eq_true rfl) (Nat.le_of_ble_eq_true rfl) (Nat.le_of_ble_eq_true rfl) (Nat.le_of_ble_eq_true rfl) dX4_init_34 (fun H hz1 hW hS => ?_)
  have hz : H.size = ad 54 := hz1.trans ((congrArg (· + 5) hz).trans (had 5 _).symm)
  have hW : z_W _ A (shSX91, ad, ISX59, z_J0, (PSX92 ad)) H := hW
  refine z_putF (T := TX4) (N := 13) (ci := 4) (i := 41) (v := .ref (ad 49)) (I1 := ISX59) (J1 := z_J0) (P1 := (PSX93 ad)) hx hb hts zi_X4_init_X4 tyX4 tyX4_ok nmX4 hown hK hW hS hs_shSX91_41 rfl 3 (by decide) (hts (.fieldLink RX4 23 "PetrolBoard$Loads" "sent" "[[I") (List.mem_of_getElem? (i := 9) rfl)) (fun _ h => h) rfl hname rfl rfl rfl (by first | rfl | exact congrArg _ z_up_s) (fun a b h ty => z_vP h ty) dX4_init_38 (fun H locs hz1 hW hS => ?_)
  have hz : H.size = ad 54 := hz1.trans hz
  refine lv_aload_n hx hb dX4_init_41 rfl (lv_at hl 0 rfl) ?_
  refine lv_iconst (v := 4) hx hb dX4_init_42 (by decide) ?_
  refine z_newa 54 ad (atype := .int) (ty := .int) (N' := 4) hx hb (hts (.arrayClass .int) (List.mem_of_getElem? (i := 4) rfl)) rfl hK (by simp [z_tys]) hW hS hA hz.symm (fun _ _ => rfl) (fun _ => rfl) (by decide) rfl (Nat.le_of_ble_eq_true rfl) (Nat.le_of_ble_eq_true rfl) (Nat.le_of_ble_eq_true rfl) dX4_init_43 (fun H hz1 hW hS => ?_)
  have hz : H.size = ad 55 := hz1.trans ((congrArg (· + 1) hz).trans (had 1 _).symm)
  have hW : z_W _ A (shSX94, ad, ISX59, z_J0, (PSX93 ad)) H := hW
  refine z_putF (T := TX4) (N := 13) (ci := 4) (i := 41) (v := .ref (ad 54)) (I1 := ISX59) (J1 := z_J0) (P1 := (PSX95 ad)) hx hb hts zi_X4_init_X4 tyX4 tyX4_ok nmX4 hown hK hW hS hs_shSX94_41 rfl 4 (by decide) (hts (.fieldLink RX4 26 "PetrolBoard$Loads" "left" "[I") (List.mem_of_getElem? (i := 10) rfl)) (fun _ h => h) rfl hname rfl rfl rfl (by first | rfl | exact congrArg _ z_up_s) (fun a b h ty => z_vP h ty) dX4_init_45 (fun H locs hz1 hW hS => ?_)
  have hz : H.size = ad 55 := hz1.trans hz
  refine lv_aload_n hx hb dX4_init_48 rfl (lv_at hl 0 rfl) ?_
  refine lv_bipush (v := 10) hx hb dX4_init_49 (by decide) ?_
  refine z_newa 55 ad (atype := .int) (ty := .int) (N' := 10) hx hb (hts (.arrayClass .int) (List.mem_of_getElem? (i := 4) rfl)) rfl hK (by simp [z_tys]) hW hS hA hz.symm (fun _ _ => rfl) (fun _ => rfl) (by decide) rfl (Nat.le_of_ble_eq_true rfl) (Nat.le_of_ble_eq_true rfl) (Nat.le_of_ble_eq_true rfl) dX4_init_51 (fun H hz1 hW hS => ?_)
  have hz : H.size = ad 56 := hz1.trans ((congrArg (· + 1) hz).trans (had 1 _).symm)
  have hW : z_W _ A (shSX96, ad, ISX59, z_J0, (PSX95 ad)) H := hW
  refine z_putF (T := TX4) (N := 13) (ci := 4) (i := 41) (v := .ref (ad 55)) (I1 := ISX59) (J1 := z_J0) (P1 := (PSX97 ad)) hx hb hts zi_X4_init_X4 tyX4 tyX4_ok nmX4 hown hK hW hS hs_shSX96_41 rfl 5 (by decide) (hts (.fieldLink RX4 29 "PetrolBoard$Loads" "lacking" "[I") (List.mem_of_getElem? (i := 11) rfl)) (fun _ h => h) rfl hname rfl rfl rfl (by first | rfl | exact congrArg _ z_up_s) (fun a b h ty => z_vP h ty) dX4_init_53 (fun H locs hz1 hW hS => ?_)
  have hz : H.size = ad 56 := hz1.trans hz
  refine lv_aload_n hx hb dX4_init_56 rfl (lv_at hl 0 rfl) ?_
  refine lv_iconst (v := 4) hx hb dX4_init_57 (by decide) ?_
  refine z_newa 56 ad (atype := .int) (ty := .int) (N' := 4) hx hb (hts (.arrayClass .int) (List.mem_of_getElem? (i := 4) rfl)) rfl hK (by simp [z_tys]) hW hS hA hz.symm (fun _ _ => rfl) (fun _ => rfl) (by decide) rfl (Nat.le_of_ble_eq_true rfl) (Nat.le_of_ble_eq_true rfl) (Nat.le_of_ble_eq_true rfl) dX4_init_58 (fun H hz1 hW hS => ?_)
  have hz : H.size = ad 57 := hz1.trans ((congrArg (· + 1) hz).trans (had 1 _).symm)
  have hW : z_W _ A (shSX98, ad, ISX59, z_J0, (PSX97 ad)) H := hW
  refine z_putF (T := TX4) (N := 13) (ci := 4) (i := 41) (v := .ref (ad 56)) (I1 := ISX59) (J1 := z_J0) (P1 := (PSX99 ad)) hx hb hts zi_X4_init_X4 tyX4 tyX4_ok nmX4 hown hK hW hS hs_shSX98_41 rfl 6 (by decide) (hts (.fieldLink RX4 32 "PetrolBoard$Loads" "toPort" "[I") (List.mem_of_getElem? (i := 12) rfl)) (fun _ h => h) rfl hname rfl rfl rfl (by first | rfl | exact congrArg _ z_up_s) (fun a b h ty => z_vP h ty) dX4_init_60 (fun H locs hz1 hW hS => ?_)
  have hz : H.size = ad 57 := hz1.trans hz
  refine lv_aload_n hx hb dX4_init_63 rfl (lv_at hl 0 rfl) ?_
  refine lv_bipush (v := 10) hx hb dX4_init_64 (by decide) ?_
  refine z_newa 57 ad (atype := .int) (ty := .int) (N' := 10) hx hb (hts (.arrayClass .int) (List.mem_of_getElem? (i := 4) rfl)) rfl hK (by simp [z_tys]) hW hS hA hz.symm (fun _ _ => rfl) (fun _ => rfl) (by decide) rfl (Nat.le_of_ble_eq_true rfl) (Nat.le_of_ble_eq_true rfl) (Nat.le_of_ble_eq_true rfl) dX4_init_66 (fun H hz1 hW hS => ?_)
  have hz : H.size = ad 58 := hz1.trans ((congrArg (· + 1) hz).trans (had 1 _).symm)
  have hW : z_W _ A (shSX100, ad, ISX59, z_J0, (PSX99 ad)) H := hW
  refine z_putF (T := TX4) (N := 13) (ci := 4) (i := 41) (v := .ref (ad 57)) (I1 := ISX59) (J1 := z_J0) (P1 := (PSX101 ad)) hx hb hts zi_X4_init_X4 tyX4 tyX4_ok nmX4 hown hK hW hS hs_shSX100_41 rfl 7 (by decide) (hts (.fieldLink RX4 35 "PetrolBoard$Loads" "toStation" "[I") (List.mem_of_getElem? (i := 13) rfl)) (fun _ h => h) rfl hname rfl rfl rfl (by first | rfl | exact congrArg _ z_up_s) (fun a b h ty => z_vP h ty) dX4_init_68 (fun H locs hz1 hW hS => ?_)
  have hz : H.size = ad 58 := hz1.trans hz
  refine lv_aload_n hx hb dX4_init_71 rfl (lv_at hl 0 rfl) ?_
  refine lv_bipush (v := 10) hx hb dX4_init_72 (by decide) ?_
  refine z_newa 58 ad (atype := .int) (ty := .int) (N' := 10) hx hb (hts (.arrayClass .int) (List.mem_of_getElem? (i := 4) rfl)) rfl hK (by simp [z_tys]) hW hS hA hz.symm (fun _ _ => rfl) (fun _ => rfl) (by decide) rfl (Nat.le_of_ble_eq_true rfl) (Nat.le_of_ble_eq_true rfl) (Nat.le_of_ble_eq_true rfl) dX4_init_74 (fun H hz1 hW hS => ?_)
  have hz : H.size = ad 59 := hz1.trans ((congrArg (· + 1) hz).trans (had 1 _).symm)
  have hW : z_W _ A (shSX102, ad, ISX59, z_J0, (PSX101 ad)) H := hW
  refine z_putF (T := TX4) (N := 13) (ci := 4) (i := 41) (v := .ref (ad 58)) (I1 := ISX59) (J1 := z_J0) (P1 := (PSX103 ad)) hx hb hts zi_X4_init_X4 tyX4 tyX4_ok nmX4 hown hK hW hS hs_shSX102_41 rfl 8 (by decide) (hts (.fieldLink RX4 38 "PetrolBoard$Loads" "byPort" "[I") (List.mem_of_getElem? (i := 14) rfl)) (fun _ h => h) rfl hname rfl rfl rfl (by first | rfl | exact congrArg _ z_up_s) (fun a b h ty => z_vP h ty) dX4_init_76 (fun H locs hz1 hW hS => ?_)
  have hz : H.size = ad 59 := hz1.trans hz
  refine lv_aload_n hx hb dX4_init_79 rfl (lv_at hl 0 rfl) ?_
  refine lv_iconst (v := 4) hx hb dX4_init_80 (by decide) ?_
  refine z_newa 59 ad (atype := .int) (ty := .int) (N' := 4) hx hb (hts (.arrayClass .int) (List.mem_of_getElem? (i := 4) rfl)) rfl hK (by simp [z_tys]) hW hS hA hz.symm (fun _ _ => rfl) (fun _ => rfl) (by decide) rfl (Nat.le_of_ble_eq_true rfl) (Nat.le_of_ble_eq_true rfl) (Nat.le_of_ble_eq_true rfl) dX4_init_81 (fun H hz1 hW hS => ?_)
  have hz : H.size = ad 60 := hz1.trans ((congrArg (· + 1) hz).trans (had 1 _).symm)
  have hW : z_W _ A (shSX104, ad, ISX59, z_J0, (PSX103 ad)) H := hW
  refine z_putF (T := TX4) (N := 13) (ci := 4) (i := 41) (v := .ref (ad 59)) (I1 := ISX59) (J1 := z_J0) (P1 := (PSX105 ad)) hx hb hts zi_X4_init_X4 tyX4 tyX4_ok nmX4 hown hK hW hS hs_shSX104_41 rfl 9 (by decide) (hts (.fieldLink RX4 41 "PetrolBoard$Loads" "byStation" "[I") (List.mem_of_getElem? (i := 15) rfl)) (fun _ h => h) rfl hname rfl rfl rfl (by first | rfl | exact congrArg _ z_up_s) (fun a b h ty => z_vP h ty) dX4_init_83 (fun H locs hz1 hW hS => ?_)
  have hz : H.size = ad 60 := hz1.trans hz
  exact z_cret hx hb hr hK hS (Nat.le_of_ble_eq_true rfl) (Nat.le_of_ble_eq_true rfl) hlocks dX4_init_86 (hz.trans ((had 18 42).trans (congrArg (· + 18) hz0.symm))) hW
theorem hs_shSX104_0 : shSX104 0 = some (.inr 11) := by rfl
noncomputable def PSX106 (ad : Nat → Nat) : z_P := z_up (PSX105 ad) 0 10 (some (ad 41))
noncomputable def shSX107 : Nat → Option z_S := z_sh shSX104 60 (.inr 3)
noncomputable def shSX108 : Nat → Option z_S := z_sh shSX107 61 (.inl (.int, 60))
theorem hs_shSX108_60 : shSX108 60 = some (.inr 3) := rfl
noncomputable def PSX109 (ad : Nat → Nat) : z_P := z_up (PSX106 ad) 60 0 (some (ad 61))
noncomputable def shSX110 : Nat → Option z_S := z_sh shSX108 62 (.inl (.int, 60))
theorem hs_shSX110_60 : shSX110 60 = some (.inr 3) := hs_shSX108_60
noncomputable def PSX111 (ad : Nat → Nat) : z_P := z_up (PSX109 ad) 60 1 (some (ad 62))
noncomputable def shSX112 : Nat → Option z_S := z_sh shSX110 63 (.inl (.int, 60))
theorem hs_shSX112_60 : shSX112 60 = some (.inr 3) := hs_shSX110_60
noncomputable def PSX113 (ad : Nat → Nat) : z_P := z_up (PSX111 ad) 60 2 (some (ad 63))
noncomputable def shSX114 : Nat → Option z_S := z_sh shSX112 64 (.inl (.int, 60))
theorem hs_shSX114_60 : shSX114 60 = some (.inr 3) := hs_shSX112_60
noncomputable def PSX115 (ad : Nat → Nat) : z_P := z_up (PSX113 ad) 60 3 (some (ad 64))
noncomputable def shSX116 : Nat → Option z_S := z_sh shSX114 65 (.inl (.int, 60))
theorem hs_shSX116_60 : shSX116 60 = some (.inr 3) := hs_shSX114_60
noncomputable def PSX117 (ad : Nat → Nat) : z_P := z_up (PSX115 ad) 60 4 (some (ad 65))
noncomputable def shSX118 : Nat → Option z_S := z_sh shSX116 66 (.inl (.int, 60))
theorem hs_shSX118_60 : shSX118 60 = some (.inr 3) := hs_shSX116_60
noncomputable def PSX119 (ad : Nat → Nat) : z_P := z_up (PSX117 ad) 60 5 (some (ad 66))
noncomputable def shSX120 : Nat → Option z_S := z_sh shSX118 67 (.inl (.int, 60))
theorem hs_shSX120_60 : shSX120 60 = some (.inr 3) := hs_shSX118_60
noncomputable def PSX121 (ad : Nat → Nat) : z_P := z_up (PSX119 ad) 60 6 (some (ad 67))
noncomputable def shSX122 : Nat → Option z_S := z_sh shSX120 68 (.inl (.int, 60))
theorem hs_shSX122_60 : shSX122 60 = some (.inr 3) := hs_shSX120_60
noncomputable def PSX123 (ad : Nat → Nat) : z_P := z_up (PSX121 ad) 60 7 (some (ad 68))
noncomputable def shSX124 : Nat → Option z_S := z_sh shSX122 69 (.inl (.int, 60))
theorem hs_shSX124_60 : shSX124 60 = some (.inr 3) := hs_shSX122_60
noncomputable def PSX125 (ad : Nat → Nat) : z_P := z_up (PSX123 ad) 60 8 (some (ad 69))
noncomputable def shSX126 : Nat → Option z_S := z_sh shSX124 70 (.inl (.int, 12))
theorem hs_shSX126_60 : shSX126 60 = some (.inr 3) := hs_shSX124_60
noncomputable def PSX127 (ad : Nat → Nat) : z_P := z_up (PSX125 ad) 60 10 (some (ad 70))
noncomputable def shSX128 : Nat → Option z_S := z_sh shSX126 71 (.inl (.int, 12))
theorem hs_shSX128_60 : shSX128 60 = some (.inr 3) := hs_shSX126_60
noncomputable def PSX129 (ad : Nat → Nat) : z_P := z_up (PSX127 ad) 60 11 (some (ad 71))
theorem zi_X3_init_X3 : ∀ w ∈ wsX30, w ∈ wsX3_init := fun w h => (List.mem_cons_of_mem _ (List.mem_append_right _ h))
set_option maxHeartbeats 8000000 in
set_option maxRecDepth 100000 in
theorem ct_X3_init (l : Launch) (G : z_G) (ad : Nat → Nat) (had : ∀ k i, ad (i + k) = ad i + k) (sz : Nat) (hz : sz = ad 61) : z_Mc l yX3_init wsX3_init { frames := 1, cells := 11, slots := 564, locals := 12 } [.ref (ad 60)] G (shSX107, ad, ISX59, z_J0, (PSX106 ad)) (shSX128, ad, ISX59, z_J0, (PSX129 ad)) 11 11 564 sz := by
  refine z_headQ (cc := cX3_init) (maxL := 1) (ret := none) (by decide) rfl (Nat.le_of_ble_eq_true rfl) ?_
  intro p e s m below meth c ls hIn hK hsz hW hl
  obtain ⟨hx, hb, hr, hml, hown, hts, hlocks, hname⟩ := hIn
  subst hsz
  have hz0 := hz
  have hown : s.vm.findClass RX3 = some m.cls := hown
  have hname : meth.name = "<init>" := hname
  have hA : ∀ q : Nat, s.heap.size ≤ q → z_A (shSX107, ad, ISX59, z_J0, (PSX106 ad)) s.heap.size q := fun q h => Or.inr h
  generalize hAe : z_A (shSX107, ad, ISX59, z_J0, (PSX106 ad)) s.heap.size = A at *
  have hS : va_S A s.heap s.heap [] := va_S.rf
  have hl : lv_has ls 1 [(0, .ref (ad 60))] := hl
  refine lv_aload_n hx hb dX3_init_0 rfl (lv_at hl 0 rfl) ?_
  refine W.objInit hx hb hown (hts (.methodLink RX3 3 objectInit) (List.mem_of_getElem? (i := 1) rfl)) (hts (.instanceMethod objectInit) (List.mem_of_getElem? (i := 2) rfl)) (hts (.code objectInit ⟨#[0xb1]⟩ 1 none) (List.mem_of_getElem? (i := 3) rfl)) rfl (by rw [hml]; exact hl.1) rfl dX3_init_1 (Nat.le_of_ble_eq_true rfl) (Nat.le_of_ble_eq_true rfl) ?_
  refine W.eq (g2 := F0 m 4 ls []) rfl ?_
  refine lv_aload_n hx hb dX3_init_4 rfl (lv_at hl 0 rfl) ?_
  refine lv_bipush (v := 60) hx hb dX3_init_5 (by decide) ?_
  refine z_newa 61 ad (atype := .int) (ty := .int) (N' := 60) hx hb (hts (.arrayClass .int) (List.mem_of_getElem? (i := 4) rfl)) rfl hK (by simp [z_tys]) hW hS hA hz.symm (fun _ _ => rfl) (fun _ => rfl) (by decide) rfl (Nat.le_of_ble_eq_true rfl) (Nat.le_of_ble_eq_true rfl) (Nat.le_of_ble_eq_true rfl) dX3_init_7 (fun H hz1 hW hS => ?_)
  have hz : H.size = ad 62 := hz1.trans ((congrArg (· + 1) hz).trans (had 1 _).symm)
  have hW : z_W _ A (shSX108, ad, ISX59, z_J0, (PSX106 ad)) H := hW
  refine z_putF (T := TX3) (N := 17) (ci := 3) (i := 60) (v := .ref (ad 61)) (I1 := ISX59) (J1 := z_J0) (P1 := (PSX109 ad)) hx hb hts zi_X3_init_X3 tyX3 tyX3_ok nmX3 hown hK hW hS hs_shSX108_60 rfl 0 (by decide) (hts (.fieldLink RX3 9 "PetrolBoard$Journeys" "holder" "[I") (List.mem_of_getElem? (i := 5) rfl)) (fun _ h => h) rfl hname rfl rfl rfl (by first | rfl | exact congrArg _ z_up_s) (fun a b h ty => z_vP h ty) dX3_init_9 (fun H locs hz1 hW hS => ?_)
  have hz : H.size = ad 62 := hz1.trans hz
  refine lv_aload_n hx hb dX3_init_12 rfl (lv_at hl 0 rfl) ?_
  refine lv_bipush (v := 60) hx hb dX3_init_13 (by decide) ?_
  refine z_newa 62 ad (atype := .int) (ty := .int) (N' := 60) hx hb (hts (.arrayClass .int) (List.mem_of_getElem? (i := 4) rfl)) rfl hK (by simp [z_tys]) hW hS hA hz.symm (fun _ _ => rfl) (fun _ => rfl) (by decide) rfl (Nat.le_of_ble_eq_true rfl) (Nat.le_of_ble_eq_true rfl) (Nat.le_of_ble_eq_true rfl) dX3_init_15 (fun H hz1 hW hS => ?_)
  have hz : H.size = ad 63 := hz1.trans ((congrArg (· + 1) hz).trans (had 1 _).symm)
  have hW : z_W _ A (shSX110, ad, ISX59, z_J0, (PSX109 ad)) H := hW
  refine z_putF (T := TX3) (N := 17) (ci := 3) (i := 60) (v := .ref (ad 62)) (I1 := ISX59) (J1 := z_J0) (P1 := (PSX111 ad)) hx hb hts zi_X3_init_X3 tyX3 tyX3_ok nmX3 hown hK hW hS hs_shSX110_60 rfl 1 (by decide) (hts (.fieldLink RX3 15 "PetrolBoard$Journeys" "miles" "[I") (List.mem_of_getElem? (i := 6) rfl)) (fun _ h => h) rfl hname rfl rfl rfl (by first | rfl | exact congrArg _ z_up_s) (fun a b h ty => z_vP h ty) dX3_init_17 (fun H locs hz1 hW hS => ?_)
  have hz : H.size = ad 63 := hz1.trans hz
  refine lv_aload_n hx hb dX3_init_20 rfl (lv_at hl 0 rfl) ?_
  refine lv_bipush (v := 60) hx hb dX3_init_21 (by decide) ?_
  refine z_newa 63 ad (atype := .int) (ty := .int) (N' := 60) hx hb (hts (.arrayClass .int) (List.mem_of_getElem? (i := 4) rfl)) rfl hK (by simp [z_tys]) hW hS hA hz.symm (fun _ _ => rfl) (fun _ => rfl) (by decide) rfl (Nat.le_of_ble_eq_true rfl) (Nat.le_of_ble_eq_true rfl) (Nat.le_of_ble_eq_true rfl) dX3_init_23 (fun H hz1 hW hS => ?_)
  have hz : H.size = ad 64 := hz1.trans ((congrArg (· + 1) hz).trans (had 1 _).symm)
  have hW : z_W _ A (shSX112, ad, ISX59, z_J0, (PSX111 ad)) H := hW
  refine z_putF (T := TX3) (N := 17) (ci := 3) (i := 60) (v := .ref (ad 63)) (I1 := ISX59) (J1 := z_J0) (P1 := (PSX113 ad)) hx hb hts zi_X3_init_X3 tyX3 tyX3_ok nmX3 hown hK hW hS hs_shSX112_60 rfl 2 (by decide) (hts (.fieldLink RX3 18 "PetrolBoard$Journeys" "people" "[I") (List.mem_of_getElem? (i := 7) rfl)) (fun _ h => h) rfl hname rfl rfl rfl (by first | rfl | exact congrArg _ z_up_s) (fun a b h ty => z_vP h ty) dX3_init_25 (fun H locs hz1 hW hS => ?_)
  have hz : H.size = ad 64 := hz1.trans hz
  refine lv_aload_n hx hb dX3_init_28 rfl (lv_at hl 0 rfl) ?_
  refine lv_bipush (v := 60) hx hb dX3_init_29 (by decide) ?_
  refine z_newa 64 ad (atype := .int) (ty := .int) (N' := 60) hx hb (hts (.arrayClass .int) (List.mem_of_getElem? (i := 4) rfl)) rfl hK (by simp [z_tys]) hW hS hA hz.symm (fun _ _ => rfl) (fun _ => rfl) (by decide) rfl (Nat.le_of_ble_eq_true rfl) (Nat.le_of_ble_eq_true rfl) (Nat.le_of_ble_eq_true rfl) dX3_init_31 (fun H hz1 hW hS => ?_)
  have hz : H.size = ad 65 := hz1.trans ((congrArg (· + 1) hz).trans (had 1 _).symm)
  have hW : z_W _ A (shSX114, ad, ISX59, z_J0, (PSX113 ad)) H := hW
  refine z_putF (T := TX3) (N := 17) (ci := 3) (i := 60) (v := .ref (ad 64)) (I1 := ISX59) (J1 := z_J0) (P1 := (PSX115 ad)) hx hb hts zi_X3_init_X3 tyX3 tyX3_ok nmX3 hown hK hW hS hs_shSX114_60 rfl 3 (by decide) (hts (.fieldLink RX3 21 "PetrolBoard$Journeys" "reason" "[I") (List.mem_of_getElem? (i := 8) rfl)) (fun _ h => h) rfl hname rfl rfl rfl (by first | rfl | exact congrArg _ z_up_s) (fun a b h ty => z_vP h ty) dX3_init_33 (fun H locs hz1 hW hS => ?_)
  have hz : H.size = ad 65 := hz1.trans hz
  refine lv_aload_n hx hb dX3_init_36 rfl (lv_at hl 0 rfl) ?_
  refine lv_bipush (v := 60) hx hb dX3_init_37 (by decide) ?_
  refine z_newa 65 ad (atype := .int) (ty := .int) (N' := 60) hx hb (hts (.arrayClass .int) (List.mem_of_getElem? (i := 4) rfl)) rfl hK (by simp [z_tys]) hW hS hA hz.symm (fun _ _ => rfl) (fun _ => rfl) (by decide) rfl (Nat.le_of_ble_eq_true rfl) (Nat.le_of_ble_eq_true rfl) (Nat.le_of_ble_eq_true rfl) dX3_init_39 (fun H hz1 hW hS => ?_)
  have hz : H.size = ad 66 := hz1.trans ((congrArg (· + 1) hz).trans (had 1 _).symm)
  have hW : z_W _ A (shSX116, ad, ISX59, z_J0, (PSX115 ad)) H := hW
  refine z_putF (T := TX3) (N := 17) (ci := 3) (i := 60) (v := .ref (ad 65)) (I1 := ISX59) (J1 := z_J0) (P1 := (PSX117 ad)) hx hb hts zi_X3_init_X3 tyX3 tyX3_ok nmX3 hown hK hW hS hs_shSX116_60 rfl 4 (by decide) (hts (.fieldLink RX3 24 "PetrolBoard$Journeys" "day" "[I") (List.mem_of_getElem? (i := 9) rfl)) (fun _ h => h) rfl hname rfl rfl rfl (by first | rfl | exact congrArg _ z_up_s) (fun a b h ty => z_vP h ty) dX3_init_41 (fun H locs hz1 hW hS => ?_)
  have hz : H.size = ad 66 := hz1.trans hz
  refine lv_aload_n hx hb dX3_init_44 rfl (lv_at hl 0 rfl) ?_
  refine lv_bipush (v := 60) hx hb dX3_init_45 (by decide) ?_
  refine z_newa 66 ad (atype := .int) (ty := .int) (N' := 60) hx hb (hts (.arrayClass .int) (List.mem_of_getElem? (i := 4) rfl)) rfl hK (by simp [z_tys]) hW hS hA hz.symm (fun _ _ => rfl) (fun _ => rfl) (by decide) rfl (Nat.le_of_ble_eq_true rfl) (Nat.le_of_ble_eq_true rfl) (Nat.le_of_ble_eq_true rfl) dX3_init_47 (fun H hz1 hW hS => ?_)
  have hz : H.size = ad 67 := hz1.trans ((congrArg (· + 1) hz).trans (had 1 _).symm)
  have hW : z_W _ A (shSX118, ad, ISX59, z_J0, (PSX117 ad)) H := hW
  refine z_putF (T := TX3) (N := 17) (ci := 3) (i := 60) (v := .ref (ad 66)) (I1 := ISX59) (J1 := z_J0) (P1 := (PSX119 ad)) hx hb hts zi_X3_init_X3 tyX3 tyX3_ok nmX3 hown hK hW hS hs_shSX118_60 rfl 5 (by decide) (hts (.fieldLink RX3 27 "PetrolBoard$Journeys" "way" "[I") (List.mem_of_getElem? (i := 10) rfl)) (fun _ h => h) rfl hname rfl rfl rfl (by first | rfl | exact congrArg _ z_up_s) (fun a b h ty => z_vP h ty) dX3_init_49 (fun H locs hz1 hW hS => ?_)
  have hz : H.size = ad 67 := hz1.trans hz
  refine lv_aload_n hx hb dX3_init_52 rfl (lv_at hl 0 rfl) ?_
  refine lv_bipush (v := 60) hx hb dX3_init_53 (by decide) ?_
  refine z_newa 67 ad (atype := .int) (ty := .int) (N' := 60) hx hb (hts (.arrayClass .int) (List.mem_of_getElem? (i := 4) rfl)) rfl hK (by simp [z_tys]) hW hS hA hz.symm (fun _ _ => rfl) (fun _ => rfl) (by decide) rfl (Nat.le_of_ble_eq_true rfl) (Nat.le_of_ble_eq_true rfl) (Nat.le_of_ble_eq_true rfl) dX3_init_55 (fun H hz1 hW hS => ?_)
  have hz : H.size = ad 68 := hz1.trans ((congrArg (· + 1) hz).trans (had 1 _).symm)
  have hW : z_W _ A (shSX120, ad, ISX59, z_J0, (PSX119 ad)) H := hW
  refine z_putF (T := TX3) (N := 17) (ci := 3) (i := 60) (v := .ref (ad 67)) (I1 := ISX59) (J1 := z_J0) (P1 := (PSX121 ad)) hx hb hts zi_X3_init_X3 tyX3 tyX3_ok nmX3 hown hK hW hS hs_shSX120_60 rfl 6 (by decide) (hts (.fieldLink RX3 30 "PetrolBoard$Journeys" "asked" "[I") (List.mem_of_getElem? (i := 11) rfl)) (fun _ h => h) rfl hname rfl rfl rfl (by first | rfl | exact congrArg _ z_up_s) (fun a b h ty => z_vP h ty) dX3_init_57 (fun H locs hz1 hW hS => ?_)
  have hz : H.size = ad 68 := hz1.trans hz
  refine lv_aload_n hx hb dX3_init_60 rfl (lv_at hl 0 rfl) ?_
  refine lv_bipush (v := 60) hx hb dX3_init_61 (by decide) ?_
  refine z_newa 68 ad (atype := .int) (ty := .int) (N' := 60) hx hb (hts (.arrayClass .int) (List.mem_of_getElem? (i := 4) rfl)) rfl hK (by simp [z_tys]) hW hS hA hz.symm (fun _ _ => rfl) (fun _ => rfl) (by decide) rfl (Nat.le_of_ble_eq_true rfl) (Nat.le_of_ble_eq_true rfl) (Nat.le_of_ble_eq_true rfl) dX3_init_63 (fun H hz1 hW hS => ?_)
  have hz : H.size = ad 69 := hz1.trans ((congrArg (· + 1) hz).trans (had 1 _).symm)
  have hW : z_W _ A (shSX122, ad, ISX59, z_J0, (PSX121 ad)) H := hW
  refine z_putF (T := TX3) (N := 17) (ci := 3) (i := 60) (v := .ref (ad 68)) (I1 := ISX59) (J1 := z_J0) (P1 := (PSX123 ad)) hx hb hts zi_X3_init_X3 tyX3 tyX3_ok nmX3 hown hK hW hS hs_shSX122_60 rfl 7 (by decide) (hts (.fieldLink RX3 33 "PetrolBoard$Journeys" "granted" "[I") (List.mem_of_getElem? (i := 12) rfl)) (fun _ h => h) rfl hname rfl rfl rfl (by first | rfl | exact congrArg _ z_up_s) (fun a b h ty => z_vP h ty) dX3_init_65 (fun H locs hz1 hW hS => ?_)
  have hz : H.size = ad 69 := hz1.trans hz
  refine lv_aload_n hx hb dX3_init_68 rfl (lv_at hl 0 rfl) ?_
  refine lv_bipush (v := 60) hx hb dX3_init_69 (by decide) ?_
  refine z_newa 69 ad (atype := .int) (ty := .int) (N' := 60) hx hb (hts (.arrayClass .int) (List.mem_of_getElem? (i := 4) rfl)) rfl hK (by simp [z_tys]) hW hS hA hz.symm (fun _ _ => rfl) (fun _ => rfl) (by decide) rfl (Nat.le_of_ble_eq_true rfl) (Nat.le_of_ble_eq_true rfl) (Nat.le_of_ble_eq_true rfl) dX3_init_71 (fun H hz1 hW hS => ?_)
  have hz : H.size = ad 70 := hz1.trans ((congrArg (· + 1) hz).trans (had 1 _).symm)
  have hW : z_W _ A (shSX124, ad, ISX59, z_J0, (PSX123 ad)) H := hW
  refine z_putF (T := TX3) (N := 17) (ci := 3) (i := 60) (v := .ref (ad 69)) (I1 := ISX59) (J1 := z_J0) (P1 := (PSX125 ad)) hx hb hts zi_X3_init_X3 tyX3 tyX3_ok nmX3 hown hK hW hS hs_shSX124_60 rfl 8 (by decide) (hts (.fieldLink RX3 36 "PetrolBoard$Journeys" "grantedFirst" "[I") (List.mem_of_getElem? (i := 13) rfl)) (fun _ h => h) rfl hname rfl rfl rfl (by first | rfl | exact congrArg _ z_up_s) (fun a b h ty => z_vP h ty) dX3_init_73 (fun H locs hz1 hW hS => ?_)
  have hz : H.size = ad 70 := hz1.trans hz
  refine lv_aload_n hx hb dX3_init_76 rfl (lv_at hl 0 rfl) ?_
  refine lv_bipush (v := 12) hx hb dX3_init_77 (by decide) ?_
  refine z_newa 70 ad (atype := .int) (ty := .int) (N' := 12) hx hb (hts (.arrayClass .int) (List.mem_of_getElem? (i := 4) rfl)) rfl hK (by simp [z_tys]) hW hS hA hz.symm (fun _ _ => rfl) (fun _ => rfl) (by decide) rfl (Nat.le_of_ble_eq_true rfl) (Nat.le_of_ble_eq_true rfl) (Nat.le_of_ble_eq_true rfl) dX3_init_79 (fun H hz1 hW hS => ?_)
  have hz : H.size = ad 71 := hz1.trans ((congrArg (· + 1) hz).trans (had 1 _).symm)
  have hW : z_W _ A (shSX126, ad, ISX59, z_J0, (PSX125 ad)) H := hW
  refine z_putF (T := TX3) (N := 17) (ci := 3) (i := 60) (v := .ref (ad 70)) (I1 := ISX59) (J1 := z_J0) (P1 := (PSX127 ad)) hx hb hts zi_X3_init_X3 tyX3 tyX3_ok nmX3 hown hK hW hS hs_shSX126_60 rfl 10 (by decide) (hts (.fieldLink RX3 39 "PetrolBoard$Journeys" "pooledSeats" "[I") (List.mem_of_getElem? (i := 14) rfl)) (fun _ h => h) rfl hname rfl rfl rfl (by first | rfl | exact congrArg _ z_up_s) (fun a b h ty => z_vP h ty) dX3_init_81 (fun H locs hz1 hW hS => ?_)
  have hz : H.size = ad 71 := hz1.trans hz
  refine lv_aload_n hx hb dX3_init_84 rfl (lv_at hl 0 rfl) ?_
  refine lv_bipush (v := 12) hx hb dX3_init_85 (by decide) ?_
  refine z_newa 71 ad (atype := .int) (ty := .int) (N' := 12) hx hb (hts (.arrayClass .int) (List.mem_of_getElem? (i := 4) rfl)) rfl hK (by simp [z_tys]) hW hS hA hz.symm (fun _ _ => rfl) (fun _ => rfl) (by decide) rfl (Nat.le_of_ble_eq_true rfl) (Nat.le_of_ble_eq_true rfl) (Nat.le_of_ble_eq_true rfl) dX3_init_87 (fun H hz1 hW hS => ?_)
  have hz : H.size = ad 72 := hz1.trans ((congrArg (· + 1) hz).trans (had 1 _).symm)
  have hW : z_W _ A (shSX128, ad, ISX59, z_J0, (PSX127 ad)) H := hW
  refine z_putF (T := TX3) (N := 17) (ci := 3) (i := 60) (v := .ref (ad 71)) (I1 := ISX59) (J1 := z_J0) (P1 := (PSX129 ad)) hx hb hts zi_X3_init_X3 tyX3 tyX3_ok nmX3 hown hK hW hS hs_shSX128_60 rfl 11 (by decide) (hts (.fieldLink RX3 42 "PetrolBoard$Journeys" "pooledCost" "[I") (List.mem_of_getElem? (i := 15) rfl)) (fun _ h => h) rfl hname rfl rfl rfl (by first | rfl | exact congrArg _ z_up_s) (fun a b h ty => z_vP h ty) dX3_init_89 (fun H locs hz1 hW hS => ?_)
  have hz : H.size = ad 72 := hz1.trans hz
  exact z_cret hx hb hr hK hS (Nat.le_of_ble_eq_true rfl) (Nat.le_of_ble_eq_true rfl) hlocks dX3_init_92 (hz.trans ((had 11 61).trans (congrArg (· + 11) hz0.symm))) hW
theorem hs_shSX128_0 : shSX128 0 = some (.inr 11) := by rfl
noncomputable def PSX130 (ad : Nat → Nat) : z_P := z_up (PSX129 ad) 0 11 (some (ad 60))
noncomputable def shSX131 : Nat → Option z_S := z_sh shSX128 72 (.inr 1)
noncomputable def shSX132 : Nat → Option z_S := z_sh shSX131 73 (.inl (.int, 30))
theorem hs_shSX132_72 : shSX132 72 = some (.inr 1) := rfl
noncomputable def PSX133 (ad : Nat → Nat) : z_P := z_up (PSX130 ad) 72 0 (some (ad 73))
noncomputable def shSX134 : Nat → Option z_S := z_sh shSX132 74 (.inl (.int, 30))
theorem hs_shSX134_72 : shSX134 72 = some (.inr 1) := hs_shSX132_72
noncomputable def PSX135 (ad : Nat → Nat) : z_P := z_up (PSX133 ad) 72 1 (some (ad 74))
theorem zi_X1_init_X1 : ∀ w ∈ wsX10, w ∈ wsX1_init := fun w h => (List.mem_cons_of_mem _ (List.mem_append_right _ h))
set_option maxHeartbeats 8000000 in
set_option maxRecDepth 100000 in
theorem ct_X1_init (l : Launch) (G : z_G) (ad : Nat → Nat) (had : ∀ k i, ad (i + k) = ad i + k) (sz : Nat) (hz : sz = ad 73) : z_Mc l yX1_init wsX1_init { frames := 1, cells := 2, slots := 60, locals := 12 } [.ref (ad 72)] G (shSX131, ad, ISX59, z_J0, (PSX130 ad)) (shSX134, ad, ISX59, z_J0, (PSX135 ad)) 2 2 60 sz := by
  refine z_headQ (cc := cX1_init) (maxL := 1) (ret := none) (by decide) rfl (Nat.le_of_ble_eq_true rfl) ?_
  intro p e s m below meth c ls hIn hK hsz hW hl
  obtain ⟨hx, hb, hr, hml, hown, hts, hlocks, hname⟩ := hIn
  subst hsz
  have hz0 := hz
  have hown : s.vm.findClass RX1 = some m.cls := hown
  have hname : meth.name = "<init>" := hname
  have hA : ∀ q : Nat, s.heap.size ≤ q → z_A (shSX131, ad, ISX59, z_J0, (PSX130 ad)) s.heap.size q := fun q h => Or.inr h
  generalize hAe : z_A (shSX131, ad, ISX59, z_J0, (PSX130 ad)) s.heap.size = A at *
  have hS : va_S A s.heap s.heap [] := va_S.rf
  have hl : lv_has ls 1 [(0, .ref (ad 72))] := hl
  refine lv_aload_n hx hb dX1_init_0 rfl (lv_at hl 0 rfl) ?_
  refine W.objInit hx hb hown (hts (.methodLink RX1 3 objectInit) (List.mem_of_getElem? (i := 1) rfl)) (hts (.instanceMethod objectInit) (List.mem_of_getElem? (i := 2) rfl)) (hts (.code objectInit ⟨#[0xb1]⟩ 1 none) (List.mem_of_getElem? (i := 3) rfl)) rfl (by rw [hml]; exact hl.1) rfl dX1_init_1 (Nat.le_of_ble_eq_true rfl) (Nat.le_of_ble_eq_true rfl) ?_
  refine W.eq (g2 := F0 m 4 ls []) rfl ?_
  refine lv_aload_n hx hb dX1_init_4 rfl (lv_at hl 0 rfl) ?_
  refine lv_bipush (v := 30) hx hb dX1_init_5 (by decide) ?_
  refine z_newa 73 ad (atype := .int) (ty := .int) (N' := 30) hx hb (hts (.arrayClass .int) (List.mem_of_getElem? (i := 4) rfl)) rfl hK (by simp [z_tys]) hW hS hA hz.symm (fun _ _ => rfl) (fun _ => rfl) (by decide) rfl (Nat.le_of_ble_eq_true rfl) (Nat.le_of_ble_eq_true rfl) (Nat.le_of_ble_eq_true rfl) dX1_init_7 (fun H hz1 hW hS => ?_)
  have hz : H.size = ad 74 := hz1.trans ((congrArg (· + 1) hz).trans (had 1 _).symm)
  have hW : z_W _ A (shSX132, ad, ISX59, z_J0, (PSX130 ad)) H := hW
  refine z_putF (T := TX1) (N := 3) (ci := 1) (i := 72) (v := .ref (ad 73)) (I1 := ISX59) (J1 := z_J0) (P1 := (PSX133 ad)) hx hb hts zi_X1_init_X1 tyX1 tyX1_ok nmX1 hown hK hW hS hs_shSX132_72 rfl 0 (by decide) (hts (.fieldLink RX1 9 "PetrolBoard$Deal" "units" "[I") (List.mem_of_getElem? (i := 5) rfl)) (fun _ h => h) rfl hname rfl rfl rfl (by first | rfl | exact congrArg _ z_up_s) (fun a b h ty => z_vP h ty) dX1_init_9 (fun H locs hz1 hW hS => ?_)
  have hz : H.size = ad 74 := hz1.trans hz
  refine lv_aload_n hx hb dX1_init_12 rfl (lv_at hl 0 rfl) ?_
  refine lv_bipush (v := 30) hx hb dX1_init_13 (by decide) ?_
  refine z_newa 74 ad (atype := .int) (ty := .int) (N' := 30) hx hb (hts (.arrayClass .int) (List.mem_of_getElem? (i := 4) rfl)) rfl hK (by simp [z_tys]) hW hS hA hz.symm (fun _ _ => rfl) (fun _ => rfl) (by decide) rfl (Nat.le_of_ble_eq_true rfl) (Nat.le_of_ble_eq_true rfl) (Nat.le_of_ble_eq_true rfl) dX1_init_15 (fun H hz1 hW hS => ?_)
  have hz : H.size = ad 75 := hz1.trans ((congrArg (· + 1) hz).trans (had 1 _).symm)
  have hW : z_W _ A (shSX134, ad, ISX59, z_J0, (PSX133 ad)) H := hW
  refine z_putF (T := TX1) (N := 3) (ci := 1) (i := 72) (v := .ref (ad 74)) (I1 := ISX59) (J1 := z_J0) (P1 := (PSX135 ad)) hx hb hts zi_X1_init_X1 tyX1 tyX1_ok nmX1 hown hK hW hS hs_shSX134_72 rfl 1 (by decide) (hts (.fieldLink RX1 15 "PetrolBoard$Deal" "served" "[I") (List.mem_of_getElem? (i := 6) rfl)) (fun _ h => h) rfl hname rfl rfl rfl (by first | rfl | exact congrArg _ z_up_s) (fun a b h ty => z_vP h ty) dX1_init_17 (fun H locs hz1 hW hS => ?_)
  have hz : H.size = ad 75 := hz1.trans hz
  exact z_cret hx hb hr hK hS (Nat.le_of_ble_eq_true rfl) (Nat.le_of_ble_eq_true rfl) hlocks dX1_init_20 (hz.trans ((had 2 73).trans (congrArg (· + 2) hz0.symm))) hW
theorem hs_shSX134_0 : shSX134 0 = some (.inr 11) := by rfl
noncomputable def PSX136 (ad : Nat → Nat) : z_P := z_up (PSX135 ad) 0 12 (some (ad 72))
noncomputable def ISX137 : z_I := z_fi ISX59 40 (-1)
theorem zi_X11_init_X0 : ∀ w ∈ wsX00, w ∈ wsX11_init := fun w h => (List.mem_cons_of_mem _ (List.mem_append_left _ (List.mem_append_left _ (List.mem_append_left _ (List.mem_append_left _ (List.mem_append_left _ (List.mem_append_right _ h)))))))
theorem zi_X11_init_X1 : ∀ w ∈ wsX10, w ∈ wsX11_init := fun w h => (List.mem_cons_of_mem _ (List.mem_append_left _ (List.mem_append_right _ h)))
theorem zi_X11_init_X2 : ∀ w ∈ wsX20, w ∈ wsX11_init := fun w h => (List.mem_cons_of_mem _ (List.mem_append_left _ (List.mem_append_left _ (List.mem_append_left _ (List.mem_append_left _ (List.mem_append_left _ (List.mem_append_left _ (List.mem_append_left _ (List.mem_append_left _ (List.mem_append_right _ h))))))))))
theorem zi_X11_init_X3 : ∀ w ∈ wsX30, w ∈ wsX11_init := fun w h => (List.mem_cons_of_mem _ (List.mem_append_left _ (List.mem_append_left _ (List.mem_append_right _ h))))
theorem zi_X11_init_X4 : ∀ w ∈ wsX40, w ∈ wsX11_init := fun w h => (List.mem_cons_of_mem _ (List.mem_append_left _ (List.mem_append_left _ (List.mem_append_left _ (List.mem_append_right _ h)))))
theorem zi_X11_init_X6 : ∀ w ∈ wsX60, w ∈ wsX11_init := fun w h => (List.mem_cons_of_mem _ (List.mem_append_left _ (List.mem_append_left _ (List.mem_append_left _ (List.mem_append_left _ (List.mem_append_left _ (List.mem_append_left _ (List.mem_append_right _ h))))))))
theorem zi_X11_init_X8 : ∀ w ∈ wsX80, w ∈ wsX11_init := fun w h => (List.mem_cons_of_mem _ (List.mem_append_left _ (List.mem_append_left _ (List.mem_append_left _ (List.mem_append_left _ (List.mem_append_right _ h))))))
theorem zi_X11_init_X9 : ∀ w ∈ wsX90, w ∈ wsX11_init := fun w h => (List.mem_cons_of_mem _ (List.mem_append_left _ (List.mem_append_left _ (List.mem_append_left _ (List.mem_append_left _ (List.mem_append_left _ (List.mem_append_left _ (List.mem_append_left _ (List.mem_append_right _ h)))))))))
theorem zi_X11_init_X11 : ∀ w ∈ wsX110, w ∈ wsX11_init := fun w h => (List.mem_cons_of_mem _ (List.mem_append_left _ (List.mem_append_left _ (List.mem_append_left _ (List.mem_append_left _ (List.mem_append_left _ (List.mem_append_left _ (List.mem_append_left _ (List.mem_append_left _ (List.mem_append_left _ (List.mem_append_right _ h)))))))))))
set_option maxHeartbeats 8000000 in
set_option maxRecDepth 100000 in
theorem ct_X11_init (l : Launch) (G : z_G) (ad : Nat → Nat) (had : ∀ k i, ad (i + k) = ad i + k) (sz : Nat) (hz : sz = ad 1) : z_Mc l yX11_init wsX11_init { frames := 3, cells := 74, slots := 8838, locals := 55 } [.ref (ad 0)] G (shX0, ad, IX0, z_J0, (PX0 ad)) (shSX134, ad, ISX137, z_J0, (PSX136 ad)) 74 74 8838 sz := by
  refine z_headQ (cc := cX11_init) (maxL := 1) (ret := none) (by decide) rfl (Nat.le_of_ble_eq_true rfl) ?_
  intro p e s m below meth c ls hIn hK hsz hW hl
  obtain ⟨hx, hb, hr, hml, hown, hts, hlocks, hname⟩ := hIn
  subst hsz
  have hz0 := hz
  have hown : s.vm.findClass RX11 = some m.cls := hown
  have hname : meth.name = "<init>" := hname
  have hA : ∀ q : Nat, s.heap.size ≤ q → z_A (shX0, ad, IX0, z_J0, (PX0 ad)) s.heap.size q := fun q h => Or.inr h
  generalize hAe : z_A (shX0, ad, IX0, z_J0, (PX0 ad)) s.heap.size = A at *
  have hS : va_S A s.heap s.heap [] := va_S.rf
  have hl : lv_has ls 1 [(0, .ref (ad 0))] := hl
  refine lv_aload_n hx hb dX11_init_0 rfl (lv_at hl 0 rfl) ?_
  refine W.objInit hx hb hown (hts (.methodLink RX11 1 objectInit) (List.mem_of_getElem? (i := 1) rfl)) (hts (.instanceMethod objectInit) (List.mem_of_getElem? (i := 2) rfl)) (hts (.code objectInit ⟨#[0xb1]⟩ 1 none) (List.mem_of_getElem? (i := 3) rfl)) rfl (by rw [hml]; exact hl.1) rfl dX11_init_1 (Nat.le_of_ble_eq_true rfl) (Nat.le_of_ble_eq_true rfl) ?_
  refine W.eq (g2 := F0 m 4 ls []) rfl ?_
  refine lv_aload_n hx hb dX11_init_4 rfl (lv_at hl 0 rfl) ?_
  refine lv_iconst (v := (-1)) hx hb dX11_init_5 (by decide) ?_
  refine z_put (T := TX11) (N := 13) (ci := 11) (i := 0) (v := .int (-1)) (I1 := ISX1) (J1 := z_J0) (P1 := (PX0 ad)) hx hb hts zi_X11_init_X11 tyX11 tyX11_ok nmX11 hown hK hW hS rfl rfl 1 (by decide) (hts (.fieldLink RX11 9 "PetrolBoard" "faultPlace" "I") (List.mem_of_getElem? (i := 4) rfl)) (fun _ h => h) rfl rfl rfl (by first | rfl | exact congrArg _ z_up_s) (fun a b h ty => z_vI h ty) dX11_init_6 (fun H locs hz1 hW hS => ?_)
  have hz : H.size = ad 1 := hz1.trans hz
  refine lv_aload_n hx hb dX11_init_9 rfl (lv_at hl 0 rfl) ?_
  refine z_new 1 ad (T := TX2) (N := 12) (ci := 2) hx hb hts zi_X11_init_X2 tyX2 tyX2_ok hown (hts (.classLink RX11 13 RX2) (List.mem_of_getElem? (i := 5) rfl)) (hts (.instantiable RX2 12) (List.mem_of_getElem? (i := 6) rfl)) (hts (.initialized RX2) (List.mem_of_getElem? (i := 7) rfl)) hK hW hS hA hz.symm (fun _ _ => rfl) rfl (fun k hk => (z_v0 rfl rfl rfl (ndX2 k hk)).symm) (Nat.le_of_ble_eq_true rfl) (Nat.le_of_ble_eq_true rfl) dX11_init_10 (fun H hz1 hW hS => ?_)
  have hz : H.size = ad 2 := hz1.trans ((congrArg (· + 1) hz).trans (had 1 _).symm)
  have hW : z_W _ A (shSX2, ad, ISX1, z_J0, (PX0 ad)) H := hW
  refine lv_dup hx hb dX11_init_13 rfl ?_
  refine z_cc hW hS hA (va_runIN (As := []) (rest := [.ref (ad 1), .ref (ad 0)]) ⟨hx, hb, hml, hown, hts⟩ (ct_X2_init l G ad had _ hz) ⟨va_cnB 0 hts gX11_init_X2_init_n15 rfl rfl rfl (hK.2.2.1 _ (List.mem_of_getElem? (i := 0) rfl)) (hts (.initialized RX2) (List.mem_of_getElem? (i := 7) rfl)) (by decide +kernel) ⟨Nat.le_of_ble_eq_true rfl, Nat.le_of_ble_eq_true rfl⟩, rfl, (hts (.instanceMethod yX2_init) (List.mem_of_getElem? (i := 41) rfl))⟩ (z_preS hK hW) rfl rfl hl.1 rfl (lv_room (Nat.le_of_ble_eq_true rfl)) dX11_init_14 ⟨Nat.le_of_ble_eq_true rfl, Nat.le_of_ble_eq_true rfl⟩) (fun H locs hz1 hW hS => ?_)
  have hz : H.size = ad 12 := hz1.trans ((congrArg (· + 10) hz).trans (had 10 _).symm)
  refine z_putF (T := TX11) (N := 13) (ci := 11) (i := 0) (v := .ref (ad 1)) (I1 := ISX1) (J1 := z_J0) (P1 := (PSX23 ad)) hx hb hts zi_X11_init_X11 tyX11 tyX11_ok nmX11 hown hK hW hS hs_shSX21_0 rfl 2 (by decide) (hts (.fieldLink RX11 16 "PetrolBoard" "holders" "LPetrolBoard$Holders;") (List.mem_of_getElem? (i := 8) rfl)) (fun _ h => h) rfl hname rfl rfl rfl (by first | rfl | exact congrArg _ z_up_s) (fun a b h ty => z_vP h ty) dX11_init_17 (fun H locs hz1 hW hS => ?_)
  have hz : H.size = ad 12 := hz1.trans hz
  refine lv_aload_n hx hb dX11_init_20 rfl (lv_at hl 0 rfl) ?_
  refine z_new 12 ad (T := TX9) (N := 14) (ci := 9) hx hb hts zi_X11_init_X9 tyX9 tyX9_ok hown (hts (.classLink RX11 20 RX9) (List.mem_of_getElem? (i := 9) rfl)) (hts (.instantiable RX9 14) (List.mem_of_getElem? (i := 10) rfl)) (hts (.initialized RX9) (List.mem_of_getElem? (i := 11) rfl)) hK hW hS hA hz.symm (fun _ _ => rfl) rfl (fun k hk => (z_v0 rfl rfl rfl (ndX9 k hk)).symm) (Nat.le_of_ble_eq_true rfl) (Nat.le_of_ble_eq_true rfl) dX11_init_21 (fun H hz1 hW hS => ?_)
  have hz : H.size = ad 13 := hz1.trans ((congrArg (· + 1) hz).trans (had 1 _).symm)
  have hW : z_W _ A (shSX24, ad, ISX1, z_J0, (PSX23 ad)) H := hW
  refine lv_dup hx hb dX11_init_24 rfl ?_
  refine z_cc hW hS hA (va_runIN (As := []) (rest := [.ref (ad 12), .ref (ad 0)]) ⟨hx, hb, hml, hown, hts⟩ (ct_X9_init l G ad had _ hz) ⟨va_cnB 0 hts gX11_init_X9_init_n22 rfl rfl rfl (hK.2.2.1 _ (List.mem_of_getElem? (i := 1) rfl)) (hts (.initialized RX9) (List.mem_of_getElem? (i := 11) rfl)) (by decide +kernel) ⟨Nat.le_of_ble_eq_true rfl, Nat.le_of_ble_eq_true rfl⟩, rfl, (hts (.instanceMethod yX9_init) (List.mem_of_getElem? (i := 54) rfl))⟩ (z_preS hK hW) rfl rfl hl.1 rfl (lv_room (Nat.le_of_ble_eq_true rfl)) dX11_init_25 ⟨Nat.le_of_ble_eq_true rfl, Nat.le_of_ble_eq_true rfl⟩) (fun H locs hz1 hW hS => ?_)
  have hz : H.size = ad 21 := hz1.trans ((congrArg (· + 8) hz).trans (had 8 _).symm)
  refine z_putF (T := TX11) (N := 13) (ci := 11) (i := 0) (v := .ref (ad 12)) (I1 := ISX1) (J1 := z_J0) (P1 := (PSX41 ad)) hx hb hts zi_X11_init_X11 tyX11 tyX11_ok nmX11 hown hK hW hS hs_shSX39_0 rfl 3 (by decide) (hts (.fieldLink RX11 23 "PetrolBoard" "reader" "LPetrolBoard$Reader;") (List.mem_of_getElem? (i := 12) rfl)) (fun _ h => h) rfl hname rfl rfl rfl (by first | rfl | exact congrArg _ z_up_s) (fun a b h ty => z_vP h ty) dX11_init_28 (fun H locs hz1 hW hS => ?_)
  have hz : H.size = ad 21 := hz1.trans hz
  refine lv_aload_n hx hb dX11_init_31 rfl (lv_at hl 0 rfl) ?_
  refine z_new 21 ad (T := TX6) (N := 3) (ci := 6) hx hb hts zi_X11_init_X6 tyX6 tyX6_ok hown (hts (.classLink RX11 27 RX6) (List.mem_of_getElem? (i := 13) rfl)) (hts (.instantiable RX6 3) (List.mem_of_getElem? (i := 14) rfl)) (hts (.initialized RX6) (List.mem_of_getElem? (i := 15) rfl)) hK hW hS hA hz.symm (fun _ _ => rfl) rfl (fun k hk => (z_v0 rfl rfl rfl (ndX6 k hk)).symm) (Nat.le_of_ble_eq_true rfl) (Nat.le_of_ble_eq_true rfl) dX11_init_32 (fun H hz1 hW hS => ?_)
  have hz : H.size = ad 22 := hz1.trans ((congrArg (· + 1) hz).trans (had 1 _).symm)
  have hW : z_W _ A (shSX42, ad, ISX1, z_J0, (PSX41 ad)) H := hW
  refine lv_dup hx hb dX11_init_35 rfl ?_
  refine z_cc hW hS hA (va_runIN (As := []) (rest := [.ref (ad 21), .ref (ad 0)]) ⟨hx, hb, hml, hown, hts⟩ (ct_X6_init l G ad had _ hz) ⟨va_cnB 0 hts gX11_init_X6_init_n29 rfl rfl rfl (hK.2.2.1 _ (List.mem_of_getElem? (i := 2) rfl)) (hts (.initialized RX6) (List.mem_of_getElem? (i := 15) rfl)) (by decide +kernel) ⟨Nat.le_of_ble_eq_true rfl, Nat.le_of_ble_eq_true rfl⟩, rfl, (hts (.instanceMethod yX6_init) (List.mem_of_getElem? (i := 65) rfl))⟩ (z_preS hK hW) rfl rfl hl.1 rfl (lv_room (Nat.le_of_ble_eq_true rfl)) dX11_init_36 ⟨Nat.le_of_ble_eq_true rfl, Nat.le_of_ble_eq_true rfl⟩) (fun H locs hz1 hW hS => ?_)
  have hz : H.size = ad 26 := hz1.trans ((congrArg (· + 4) hz).trans (had 4 _).symm)
  refine z_putF (T := TX11) (N := 13) (ci := 11) (i := 0) (v := .ref (ad 21)) (I1 := ISX1) (J1 := z_J0) (P1 := (PSX51 ad)) hx hb hts zi_X11_init_X11 tyX11 tyX11_ok nmX11 hown hK hW hS hs_shSX48_0 rfl 4 (by decide) (hts (.fieldLink RX11 30 "PetrolBoard" "orderBook" "LPetrolBoard$OrderBook;") (List.mem_of_getElem? (i := 16) rfl)) (fun _ h => h) rfl hname rfl rfl rfl (by first | rfl | exact congrArg _ z_up_s) (fun a b h ty => z_vP h ty) dX11_init_39 (fun H locs hz1 hW hS => ?_)
  have hz : H.size = ad 26 := hz1.trans hz
  refine lv_aload_n hx hb dX11_init_42 rfl (lv_at hl 0 rfl) ?_
  refine z_new 26 ad (T := TX0) (N := 5) (ci := 0) hx hb hts zi_X11_init_X0 tyX0 tyX0_ok hown (hts (.classLink RX11 34 RX0) (List.mem_of_getElem? (i := 17) rfl)) (hts (.instantiable RX0 5) (List.mem_of_getElem? (i := 18) rfl)) (hts (.initialized RX0) (List.mem_of_getElem? (i := 19) rfl)) hK hW hS hA hz.symm (fun _ _ => rfl) rfl (fun k hk => (z_v0 rfl rfl rfl (ndX0 k hk)).symm) (Nat.le_of_ble_eq_true rfl) (Nat.le_of_ble_eq_true rfl) dX11_init_43 (fun H hz1 hW hS => ?_)
  have hz : H.size = ad 27 := hz1.trans ((congrArg (· + 1) hz).trans (had 1 _).symm)
  have hW : z_W _ A (shSX52, ad, ISX1, z_J0, (PSX51 ad)) H := hW
  refine lv_dup hx hb dX11_init_46 rfl ?_
  refine z_cc hW hS hA (va_runI (As := []) (rest := [.ref (ad 26), .ref (ad 0)]) ⟨hx, hb, hml, hown, hts⟩ (ct_X0_init l G ad had _ hz) (cwI 0 hts gX11_init_X0_init rfl rfl rfl (hts (.initialized RX0) (List.mem_of_getElem? (i := 19) rfl)) (hts (.methodLink RX11 36 yX0_init) (List.mem_of_getElem? (i := 79) rfl)) (hts (.instanceMethod yX0_init) (List.mem_of_getElem? (i := 80) rfl)) rfl (by decide +kernel) ⟨Nat.le_of_ble_eq_true rfl, Nat.le_of_ble_eq_true rfl⟩) (z_preS hK hW) rfl rfl hl.1 rfl (lv_room (Nat.le_of_ble_eq_true rfl)) dX11_init_47 ⟨Nat.le_of_ble_eq_true rfl, Nat.le_of_ble_eq_true rfl⟩) (fun H locs hz1 hW hS => ?_)
  have hz : H.size = ad 30 := hz1.trans ((congrArg (· + 3) hz).trans (had 3 _).symm)
  refine z_putF (T := TX11) (N := 13) (ci := 11) (i := 0) (v := .ref (ad 26)) (I1 := ISX59) (J1 := z_J0) (P1 := (PSX60 ad)) hx hb hts zi_X11_init_X11 tyX11 tyX11_ok nmX11 hown hK hW hS hs_shSX57_0 rfl 5 (by decide) (hts (.fieldLink RX11 37 "PetrolBoard" "coupons" "LPetrolBoard$Coupons;") (List.mem_of_getElem? (i := 20) rfl)) (fun _ h => h) rfl hname rfl rfl rfl (by first | rfl | exact congrArg _ z_up_s) (fun a b h ty => z_vP h ty) dX11_init_50 (fun H locs hz1 hW hS => ?_)
  have hz : H.size = ad 30 := hz1.trans hz
  refine lv_aload_n hx hb dX11_init_53 rfl (lv_at hl 0 rfl) ?_
  refine z_new 30 ad (T := TX8) (N := 9) (ci := 8) hx hb hts zi_X11_init_X8 tyX8 tyX8_ok hown (hts (.classLink RX11 41 RX8) (List.mem_of_getElem? (i := 21) rfl)) (hts (.instantiable RX8 9) (List.mem_of_getElem? (i := 22) rfl)) (hts (.initialized RX8) (List.mem_of_getElem? (i := 23) rfl)) hK hW hS hA hz.symm (fun _ _ => rfl) rfl (fun k hk => (z_v0 rfl rfl rfl (ndX8 k hk)).symm) (Nat.le_of_ble_eq_true rfl) (Nat.le_of_ble_eq_true rfl) dX11_init_54 (fun H hz1 hW hS => ?_)
  have hz : H.size = ad 31 := hz1.trans ((congrArg (· + 1) hz).trans (had 1 _).symm)
  have hW : z_W _ A (shSX61, ad, ISX59, z_J0, (PSX60 ad)) H := hW
  refine lv_dup hx hb dX11_init_57 rfl ?_
  refine z_cc hW hS hA (va_runIN (As := []) (rest := [.ref (ad 30), .ref (ad 0)]) ⟨hx, hb, hml, hown, hts⟩ (ct_X8_init l G ad had _ hz) ⟨va_cnB 0 hts gX11_init_X8_init_n43 rfl rfl rfl (hK.2.2.1 _ (List.mem_of_getElem? (i := 4) rfl)) (hts (.initialized RX8) (List.mem_of_getElem? (i := 23) rfl)) (by decide +kernel) ⟨Nat.le_of_ble_eq_true rfl, Nat.le_of_ble_eq_true rfl⟩, rfl, (hts (.instanceMethod yX8_init) (List.mem_of_getElem? (i := 90) rfl))⟩ (z_preS hK hW) rfl rfl hl.1 rfl (lv_room (Nat.le_of_ble_eq_true rfl)) dX11_init_58 ⟨Nat.le_of_ble_eq_true rfl, Nat.le_of_ble_eq_true rfl⟩) (fun H locs hz1 hW hS => ?_)
  have hz : H.size = ad 39 := hz1.trans ((congrArg (· + 8) hz).trans (had 8 _).symm)
  refine z_putF (T := TX11) (N := 13) (ci := 11) (i := 0) (v := .ref (ad 30)) (I1 := ISX59) (J1 := z_J0) (P1 := (PSX78 ad)) hx hb hts zi_X11_init_X11 tyX11 tyX11_ok nmX11 hown hK hW hS hs_shSX76_0 rfl 6 (by decide) (hts (.fieldLink RX11 44 "PetrolBoard" "pours" "LPetrolBoard$Pours;") (List.mem_of_getElem? (i := 24) rfl)) (fun _ h => h) rfl hname rfl rfl rfl (by first | rfl | exact congrArg _ z_up_s) (fun a b h ty => z_vP h ty) dX11_init_61 (fun H locs hz1 hW hS => ?_)
  have hz : H.size = ad 39 := hz1.trans hz
  refine lv_aload_n hx hb dX11_init_64 rfl (lv_at hl 0 rfl) ?_
  refine lv_bipush (v := 10) hx hb dX11_init_65 (by decide) ?_
  refine z_newq 39 ad (N' := 10) hx hb hown (hts (.classLink RX11 48 RX10) (List.mem_of_getElem? (i := 25) rfl)) (hK.2.2.2.1 RX10 (by simp [z_over])) hK (by simp [z_tys]) hW hS hA hz.symm (fun _ _ => rfl) (fun _ => rfl) (by decide) rfl (Nat.le_of_ble_eq_true rfl) (Nat.le_of_ble_eq_true rfl) (Nat.le_of_ble_eq_true rfl) dX11_init_67 (fun H hz1 hW hS => ?_)
  have hz : H.size = ad 40 := hz1.trans ((congrArg (· + 1) hz).trans (had 1 _).symm)
  have hW : z_W _ A (shSX79, ad, ISX59, z_J0, (PSX78 ad)) H := hW
  refine z_putF (T := TX11) (N := 13) (ci := 11) (i := 0) (v := .ref (ad 39)) (I1 := ISX59) (J1 := z_J0) (P1 := (PSX80 ad)) hx hb hts zi_X11_init_X11 tyX11 tyX11_ok nmX11 hown hK hW hS hs_shSX79_0 rfl 7 (by decide) (hts (.fieldLink RX11 50 "PetrolBoard" "stations" "[LPetrolBoard$Station;") (List.mem_of_getElem? (i := 26) rfl)) (fun _ h => h) rfl hname rfl rfl rfl (by first | rfl | exact congrArg _ z_up_s) (fun a b h ty => z_vP h ty) dX11_init_70 (fun H locs hz1 hW hS => ?_)
  have hz : H.size = ad 40 := hz1.trans hz
  refine lv_aload_n hx hb dX11_init_73 rfl (lv_at hl 0 rfl) ?_
  refine lv_bipush (v := 30) hx hb dX11_init_74 (by decide) ?_
  refine z_newa 40 ad (atype := .int) (ty := .int) (N' := 30) hx hb (hts (.arrayClass .int) (List.mem_of_getElem? (i := 27) rfl)) rfl hK (by simp [z_tys]) hW hS hA hz.symm (fun _ _ => rfl) (fun _ => rfl) (by decide) rfl (Nat.le_of_ble_eq_true rfl) (Nat.le_of_ble_eq_true rfl) (Nat.le_of_ble_eq_true rfl) dX11_init_76 (fun H hz1 hW hS => ?_)
  have hz : H.size = ad 41 := hz1.trans ((congrArg (· + 1) hz).trans (had 1 _).symm)
  have hW : z_W _ A (shSX81, ad, ISX59, z_J0, (PSX80 ad)) H := hW
  refine z_putF (T := TX11) (N := 13) (ci := 11) (i := 0) (v := .ref (ad 40)) (I1 := ISX59) (J1 := z_J0) (P1 := (PSX82 ad)) hx hb hts zi_X11_init_X11 tyX11 tyX11_ok nmX11 hown hK hW hS hs_shSX81_0 rfl 9 (by decide) (hts (.fieldLink RX11 54 "PetrolBoard" "row" "[I") (List.mem_of_getElem? (i := 28) rfl)) (fun _ h => h) rfl hname rfl rfl rfl (by first | rfl | exact congrArg _ z_up_s) (fun a b h ty => z_vP h ty) dX11_init_78 (fun H locs hz1 hW hS => ?_)
  have hz : H.size = ad 41 := hz1.trans hz
  refine lv_aload_n hx hb dX11_init_81 rfl (lv_at hl 0 rfl) ?_
  refine z_new 41 ad (T := TX4) (N := 13) (ci := 4) hx hb hts zi_X11_init_X4 tyX4 tyX4_ok hown (hts (.classLink RX11 58 RX4) (List.mem_of_getElem? (i := 29) rfl)) (hts (.instantiable RX4 13) (List.mem_of_getElem? (i := 30) rfl)) (hts (.initialized RX4) (List.mem_of_getElem? (i := 31) rfl)) hK hW hS hA hz.symm (fun _ _ => rfl) rfl (fun k hk => (z_v0 rfl rfl rfl (ndX4 k hk)).symm) (Nat.le_of_ble_eq_true rfl) (Nat.le_of_ble_eq_true rfl) dX11_init_82 (fun H hz1 hW hS => ?_)
  have hz : H.size = ad 42 := hz1.trans ((congrArg (· + 1) hz).trans (had 1 _).symm)
  have hW : z_W _ A (shSX83, ad, ISX59, z_J0, (PSX82 ad)) H := hW
  refine lv_dup hx hb dX11_init_85 rfl ?_
  refine z_cc hW hS hA (va_runIN (As := []) (rest := [.ref (ad 41), .ref (ad 0)]) ⟨hx, hb, hml, hown, hts⟩ (ct_X4_init l G ad had _ hz) ⟨va_cnB 0 hts gX11_init_X4_init_n60 rfl rfl rfl (hK.2.2.1 _ (List.mem_of_getElem? (i := 5) rfl)) (hts (.initialized RX4) (List.mem_of_getElem? (i := 31) rfl)) (by decide +kernel) ⟨Nat.le_of_ble_eq_true rfl, Nat.le_of_ble_eq_true rfl⟩, rfl, (hts (.instanceMethod yX4_init) (List.mem_of_getElem? (i := 101) rfl))⟩ (z_preS hK hW) rfl rfl hl.1 rfl (lv_room (Nat.le_of_ble_eq_true rfl)) dX11_init_86 ⟨Nat.le_of_ble_eq_true rfl, Nat.le_of_ble_eq_true rfl⟩) (fun H locs hz1 hW hS => ?_)
  have hz : H.size = ad 60 := hz1.trans ((congrArg (· + 18) hz).trans (had 18 _).symm)
  refine z_putF (T := TX11) (N := 13) (ci := 11) (i := 0) (v := .ref (ad 41)) (I1 := ISX59) (J1 := z_J0) (P1 := (PSX106 ad)) hx hb hts zi_X11_init_X11 tyX11 tyX11_ok nmX11 hown hK hW hS hs_shSX104_0 rfl 10 (by decide) (hts (.fieldLink RX11 61 "PetrolBoard" "loads" "LPetrolBoard$Loads;") (List.mem_of_getElem? (i := 32) rfl)) (fun _ h => h) rfl hname rfl rfl rfl (by first | rfl | exact congrArg _ z_up_s) (fun a b h ty => z_vP h ty) dX11_init_89 (fun H locs hz1 hW hS => ?_)
  have hz : H.size = ad 60 := hz1.trans hz
  refine lv_aload_n hx hb dX11_init_92 rfl (lv_at hl 0 rfl) ?_
  refine z_new 60 ad (T := TX3) (N := 17) (ci := 3) hx hb hts zi_X11_init_X3 tyX3 tyX3_ok hown (hts (.classLink RX11 65 RX3) (List.mem_of_getElem? (i := 33) rfl)) (hts (.instantiable RX3 17) (List.mem_of_getElem? (i := 34) rfl)) (hts (.initialized RX3) (List.mem_of_getElem? (i := 35) rfl)) hK hW hS hA hz.symm (fun _ _ => rfl) rfl (fun k hk => (z_v0 rfl rfl rfl (ndX3 k hk)).symm) (Nat.le_of_ble_eq_true rfl) (Nat.le_of_ble_eq_true rfl) dX11_init_93 (fun H hz1 hW hS => ?_)
  have hz : H.size = ad 61 := hz1.trans ((congrArg (· + 1) hz).trans (had 1 _).symm)
  have hW : z_W _ A (shSX107, ad, ISX59, z_J0, (PSX106 ad)) H := hW
  refine lv_dup hx hb dX11_init_96 rfl ?_
  refine z_cc hW hS hA (va_runIN (As := []) (rest := [.ref (ad 60), .ref (ad 0)]) ⟨hx, hb, hml, hown, hts⟩ (ct_X3_init l G ad had _ hz) ⟨va_cnB 0 hts gX11_init_X3_init_n67 rfl rfl rfl (hK.2.2.1 _ (List.mem_of_getElem? (i := 6) rfl)) (hts (.initialized RX3) (List.mem_of_getElem? (i := 35) rfl)) (by decide +kernel) ⟨Nat.le_of_ble_eq_true rfl, Nat.le_of_ble_eq_true rfl⟩, rfl, (hts (.instanceMethod yX3_init) (List.mem_of_getElem? (i := 115) rfl))⟩ (z_preS hK hW) rfl rfl hl.1 rfl (lv_room (Nat.le_of_ble_eq_true rfl)) dX11_init_97 ⟨Nat.le_of_ble_eq_true rfl, Nat.le_of_ble_eq_true rfl⟩) (fun H locs hz1 hW hS => ?_)
  have hz : H.size = ad 72 := hz1.trans ((congrArg (· + 11) hz).trans (had 11 _).symm)
  refine z_putF (T := TX11) (N := 13) (ci := 11) (i := 0) (v := .ref (ad 60)) (I1 := ISX59) (J1 := z_J0) (P1 := (PSX130 ad)) hx hb hts zi_X11_init_X11 tyX11 tyX11_ok nmX11 hown hK hW hS hs_shSX128_0 rfl 11 (by decide) (hts (.fieldLink RX11 68 "PetrolBoard" "journeys" "LPetrolBoard$Journeys;") (List.mem_of_getElem? (i := 36) rfl)) (fun _ h => h) rfl hname rfl rfl rfl (by first | rfl | exact congrArg _ z_up_s) (fun a b h ty => z_vP h ty) dX11_init_100 (fun H locs hz1 hW hS => ?_)
  have hz : H.size = ad 72 := hz1.trans hz
  refine lv_aload_n hx hb dX11_init_103 rfl (lv_at hl 0 rfl) ?_
  refine z_new 72 ad (T := TX1) (N := 3) (ci := 1) hx hb hts zi_X11_init_X1 tyX1 tyX1_ok hown (hts (.classLink RX11 72 RX1) (List.mem_of_getElem? (i := 37) rfl)) (hts (.instantiable RX1 3) (List.mem_of_getElem? (i := 38) rfl)) (hts (.initialized RX1) (List.mem_of_getElem? (i := 39) rfl)) hK hW hS hA hz.symm (fun _ _ => rfl) rfl (fun k hk => (z_v0 rfl rfl rfl (ndX1 k hk)).symm) (Nat.le_of_ble_eq_true rfl) (Nat.le_of_ble_eq_true rfl) dX11_init_104 (fun H hz1 hW hS => ?_)
  have hz : H.size = ad 73 := hz1.trans ((congrArg (· + 1) hz).trans (had 1 _).symm)
  have hW : z_W _ A (shSX131, ad, ISX59, z_J0, (PSX130 ad)) H := hW
  refine lv_dup hx hb dX11_init_107 rfl ?_
  refine z_cc hW hS hA (va_runIN (As := []) (rest := [.ref (ad 72), .ref (ad 0)]) ⟨hx, hb, hml, hown, hts⟩ (ct_X1_init l G ad had _ hz) ⟨va_cnB 0 hts gX11_init_X1_init_n74 rfl rfl rfl (hK.2.2.1 _ (List.mem_of_getElem? (i := 7) rfl)) (hts (.initialized RX1) (List.mem_of_getElem? (i := 39) rfl)) (by decide +kernel) ⟨Nat.le_of_ble_eq_true rfl, Nat.le_of_ble_eq_true rfl⟩, rfl, (hts (.instanceMethod yX1_init) (List.mem_of_getElem? (i := 129) rfl))⟩ (z_preS hK hW) rfl rfl hl.1 rfl (lv_room (Nat.le_of_ble_eq_true rfl)) dX11_init_108 ⟨Nat.le_of_ble_eq_true rfl, Nat.le_of_ble_eq_true rfl⟩) (fun H locs hz1 hW hS => ?_)
  have hz : H.size = ad 75 := hz1.trans ((congrArg (· + 2) hz).trans (had 2 _).symm)
  refine z_putF (T := TX11) (N := 13) (ci := 11) (i := 0) (v := .ref (ad 72)) (I1 := ISX59) (J1 := z_J0) (P1 := (PSX136 ad)) hx hb hts zi_X11_init_X11 tyX11 tyX11_ok nmX11 hown hK hW hS hs_shSX134_0 rfl 12 (by decide) (hts (.fieldLink RX11 75 "PetrolBoard" "deal" "LPetrolBoard$Deal;") (List.mem_of_getElem? (i := 40) rfl)) (fun _ h => h) rfl hname rfl rfl rfl (by first | rfl | exact congrArg _ z_up_s) (fun a b h ty => z_vP h ty) dX11_init_111 (fun H locs hz1 hW hS => ?_)
  have hz : H.size = ad 75 := hz1.trans hz
  refine lv_aload_n hx hb dX11_init_114 rfl (lv_at hl 0 rfl) ?_
  refine z_get (T := TX11) (N := 13) (ci := 11) (i := 0) (v := .ref (ad 40)) hx hb hts zi_X11_init_X11 hown hK hW hs_shSX134_0 rfl 9 (by decide) (hts (.fieldLink RX11 54 "PetrolBoard" "row" "[I") (List.mem_of_getElem? (i := 28) rfl)) (fun _ h => h) rfl dX11_init_115 ?_
  refine lv_iconst (v := (-1)) hx hb dX11_init_118 (by decide) ?_
  refine z_cc hW hS hA (va_runS (As := [.ref (ad 40), .int (-1)]) (rest := []) ⟨hx, hb, hml, hown, hts⟩ (ct_fill l G 40 30 (-1) rfl (by decide) _) (va_cwS 2 hts gX11_init_J7_fill_53178 rfl rfl rfl (by decide +kernel) ⟨Nat.le_of_ble_eq_true rfl, Nat.le_of_ble_eq_true rfl⟩) (z_preS hK hW) rfl rfl hl.1 rfl (lv_room (Nat.le_of_ble_eq_true rfl)) dX11_init_119 ⟨Nat.le_of_ble_eq_true rfl, Nat.le_of_ble_eq_true rfl⟩) (fun H locs hz1 hW hS => ?_)
  have hW : z_W _ A (shSX134, ad, ISX137, z_J0, (PSX136 ad)) H := hW
  have hz : H.size = ad 75 := hz1.trans hz
  exact z_cret hx hb hr hK hS (Nat.le_of_ble_eq_true rfl) (Nat.le_of_ble_eq_true rfl) hlocks dX11_init_122 (hz.trans ((had 74 1).trans (congrArg (· + 74) hz0.symm))) hW
