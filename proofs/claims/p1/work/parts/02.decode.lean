theorem dRp_init_0 : decode cRp_init 0 = .ok (.aload_n 0, 1) := by decide +kernel
theorem dRp_init_1 : decode cRp_init 1 = .ok (.invokespecial 1, 3) := by decide +kernel
theorem dRp_init_4 : decode cRp_init 4 = .ok (.aload_n 0, 1) := by decide +kernel
theorem dRp_init_5 : decode cRp_init 5 = .ok (.ldc 9, 2) := by decide +kernel
theorem dRp_init_7 : decode cRp_init 7 = .ok (.newarray .byte, 2) := by decide +kernel
theorem dRp_init_9 : decode cRp_init 9 = .ok (.putfield 10, 3) := by decide +kernel
theorem dRp_init_12 : decode cRp_init 12 = .ok (.aload_n 0, 1) := by decide +kernel
theorem dRp_init_13 : decode cRp_init 13 = .ok (.new 14, 3) := by decide +kernel
theorem dRp_init_16 : decode cRp_init 16 = .ok (.dup, 1) := by decide +kernel
theorem dRp_init_17 : decode cRp_init 17 = .ok (.invokespecial 16, 3) := by decide +kernel
theorem dRp_init_20 : decode cRp_init 20 = .ok (.putfield 17, 3) := by decide +kernel
theorem dRp_init_23 : decode cRp_init 23 = .ok (.aload_n 0, 1) := by decide +kernel
theorem dRp_init_24 : decode cRp_init 24 = .ok (.new 21, 3) := by decide +kernel
theorem dRp_init_27 : decode cRp_init 27 = .ok (.dup, 1) := by decide +kernel
theorem dRp_init_28 : decode cRp_init 28 = .ok (.aload_n 0, 1) := by decide +kernel
theorem dRp_init_29 : decode cRp_init 29 = .ok (.getfield 17, 3) := by decide +kernel
theorem dRp_init_32 : decode cRp_init 32 = .ok (.aload_n 0, 1) := by decide +kernel
theorem dRp_init_33 : decode cRp_init 33 = .ok (.getfield 10, 3) := by decide +kernel
theorem dRp_init_36 : decode cRp_init 36 = .ok (.invokespecial 23, 3) := by decide +kernel
theorem dRp_init_39 : decode cRp_init 39 = .ok (.putfield 26, 3) := by decide +kernel
theorem dRp_init_42 : decode cRp_init 42 = .ok (.aload_n 0, 1) := by decide +kernel
theorem dRp_init_43 : decode cRp_init 43 = .ok (.new 30, 3) := by decide +kernel
theorem dRp_init_46 : decode cRp_init 46 = .ok (.dup, 1) := by decide +kernel
theorem dRp_init_47 : decode cRp_init 47 = .ok (.invokespecial 32, 3) := by decide +kernel
theorem dRp_init_50 : decode cRp_init 50 = .ok (.putfield 33, 3) := by decide +kernel
theorem dRp_init_53 : decode cRp_init 53 = .ok (.aload_n 0, 1) := by decide +kernel
theorem dRp_init_54 : decode cRp_init 54 = .ok (.new 37, 3) := by decide +kernel
theorem dRp_init_57 : decode cRp_init 57 = .ok (.dup, 1) := by decide +kernel
theorem dRp_init_58 : decode cRp_init 58 = .ok (.aload_n 0, 1) := by decide +kernel
theorem dRp_init_59 : decode cRp_init 59 = .ok (.getfield 17, 3) := by decide +kernel
theorem dRp_init_62 : decode cRp_init 62 = .ok (.aload_n 0, 1) := by decide +kernel
theorem dRp_init_63 : decode cRp_init 63 = .ok (.getfield 33, 3) := by decide +kernel
theorem dRp_init_66 : decode cRp_init 66 = .ok (.invokespecial 39, 3) := by decide +kernel
theorem dRp_init_69 : decode cRp_init 69 = .ok (.putfield 42, 3) := by decide +kernel
theorem dRp_init_72 : decode cRp_init 72 = .ok (.aload_n 0, 1) := by decide +kernel
theorem dRp_init_73 : decode cRp_init 73 = .ok (.new 46, 3) := by decide +kernel
theorem dRp_init_76 : decode cRp_init 76 = .ok (.dup, 1) := by decide +kernel
theorem dRp_init_77 : decode cRp_init 77 = .ok (.invokespecial 48, 3) := by decide +kernel
theorem dRp_init_80 : decode cRp_init 80 = .ok (.putfield 49, 3) := by decide +kernel
theorem dRp_init_83 : decode cRp_init 83 = .ok (.aload_n 0, 1) := by decide +kernel
theorem dRp_init_84 : decode cRp_init 84 = .ok (.new 53, 3) := by decide +kernel
theorem dRp_init_87 : decode cRp_init 87 = .ok (.dup, 1) := by decide +kernel
theorem dRp_init_88 : decode cRp_init 88 = .ok (.aload_n 0, 1) := by decide +kernel
theorem dRp_init_89 : decode cRp_init 89 = .ok (.getfield 49, 3) := by decide +kernel
theorem dRp_init_92 : decode cRp_init 92 = .ok (.invokespecial 55, 3) := by decide +kernel
theorem dRp_init_95 : decode cRp_init 95 = .ok (.putfield 58, 3) := by decide +kernel
theorem dRp_init_98 : decode cRp_init 98 = .ok (.aload_n 0, 1) := by decide +kernel
theorem dRp_init_99 : decode cRp_init 99 = .ok (.new 62, 3) := by decide +kernel
theorem dRp_init_102 : decode cRp_init 102 = .ok (.dup, 1) := by decide +kernel
theorem dRp_init_103 : decode cRp_init 103 = .ok (.aload_n 0, 1) := by decide +kernel
theorem dRp_init_104 : decode cRp_init 104 = .ok (.getfield 49, 3) := by decide +kernel
theorem dRp_init_107 : decode cRp_init 107 = .ok (.aload_n 0, 1) := by decide +kernel
theorem dRp_init_108 : decode cRp_init 108 = .ok (.getfield 58, 3) := by decide +kernel
theorem dRp_init_111 : decode cRp_init 111 = .ok (.invokespecial 64, 3) := by decide +kernel
theorem dRp_init_114 : decode cRp_init 114 = .ok (.putfield 67, 3) := by decide +kernel
theorem dRp_init_117 : decode cRp_init 117 = .ok (.aload_n 0, 1) := by decide +kernel
theorem dRp_init_118 : decode cRp_init 118 = .ok (.bipush 12, 2) := by decide +kernel
theorem dRp_init_120 : decode cRp_init 120 = .ok (.newarray .int, 2) := by decide +kernel
theorem dRp_init_122 : decode cRp_init 122 = .ok (.putfield 71, 3) := by decide +kernel
theorem dRp_init_125 : decode cRp_init 125 = .ok (.aload_n 0, 1) := by decide +kernel
theorem dRp_init_126 : decode cRp_init 126 = .ok (.bipush 30, 2) := by decide +kernel
theorem dRp_init_128 : decode cRp_init 128 = .ok (.newarray .int, 2) := by decide +kernel
theorem dRp_init_130 : decode cRp_init 130 = .ok (.putfield 75, 3) := by decide +kernel
theorem dRp_init_133 : decode cRp_init 133 = .ok (.return_, 1) := by decide +kernel
theorem dPg_init_0 : decode cPg_init 0 = .ok (.aload_n 0, 1) := by decide +kernel
theorem dPg_init_1 : decode cPg_init 1 = .ok (.invokespecial 1, 3) := by decide +kernel
theorem dPg_init_4 : decode cPg_init 4 = .ok (.aload_n 0, 1) := by decide +kernel
theorem dPg_init_5 : decode cPg_init 5 = .ok (.sipush 27000, 3) := by decide +kernel
theorem dPg_init_8 : decode cPg_init 8 = .ok (.newarray .int, 2) := by decide +kernel
theorem dPg_init_10 : decode cPg_init 10 = .ok (.putfield 9, 3) := by decide +kernel
theorem dPg_init_13 : decode cPg_init 13 = .ok (.aload_n 0, 1) := by decide +kernel
theorem dPg_init_14 : decode cPg_init 14 = .ok (.sipush 1000, 3) := by decide +kernel
theorem dPg_init_17 : decode cPg_init 17 = .ok (.newarray .int, 2) := by decide +kernel
theorem dPg_init_19 : decode cPg_init 19 = .ok (.putfield 15, 3) := by decide +kernel
theorem dPg_init_22 : decode cPg_init 22 = .ok (.aload_n 0, 1) := by decide +kernel
theorem dPg_init_23 : decode cPg_init 23 = .ok (.sipush 8000, 3) := by decide +kernel
theorem dPg_init_26 : decode cPg_init 26 = .ok (.newarray .int, 2) := by decide +kernel
theorem dPg_init_28 : decode cPg_init 28 = .ok (.putfield 20, 3) := by decide +kernel
theorem dPg_init_31 : decode cPg_init 31 = .ok (.aload_n 0, 1) := by decide +kernel
theorem dPg_init_32 : decode cPg_init 32 = .ok (.sipush 8000, 3) := by decide +kernel
theorem dPg_init_35 : decode cPg_init 35 = .ok (.newarray .int, 2) := by decide +kernel
theorem dPg_init_37 : decode cPg_init 37 = .ok (.putfield 23, 3) := by decide +kernel
theorem dPg_init_40 : decode cPg_init 40 = .ok (.aload_n 0, 1) := by decide +kernel
theorem dPg_init_41 : decode cPg_init 41 = .ok (.sipush 200, 3) := by decide +kernel
theorem dPg_init_44 : decode cPg_init 44 = .ok (.newarray .int, 2) := by decide +kernel
theorem dPg_init_46 : decode cPg_init 46 = .ok (.putfield 26, 3) := by decide +kernel
theorem dPg_init_49 : decode cPg_init 49 = .ok (.aload_n 0, 1) := by decide +kernel
theorem dPg_init_50 : decode cPg_init 50 = .ok (.sipush 200, 3) := by decide +kernel
theorem dPg_init_53 : decode cPg_init 53 = .ok (.newarray .int, 2) := by decide +kernel
theorem dPg_init_55 : decode cPg_init 55 = .ok (.putfield 29, 3) := by decide +kernel
theorem dPg_init_58 : decode cPg_init 58 = .ok (.aload_n 0, 1) := by decide +kernel
theorem dPg_init_59 : decode cPg_init 59 = .ok (.bipush 30, 2) := by decide +kernel
theorem dPg_init_61 : decode cPg_init 61 = .ok (.newarray .int, 2) := by decide +kernel
theorem dPg_init_63 : decode cPg_init 63 = .ok (.putfield 32, 3) := by decide +kernel
theorem dPg_init_66 : decode cPg_init 66 = .ok (.aload_n 0, 1) := by decide +kernel
theorem dPg_init_67 : decode cPg_init 67 = .ok (.bipush 30, 2) := by decide +kernel
theorem dPg_init_69 : decode cPg_init 69 = .ok (.newarray .int, 2) := by decide +kernel
theorem dPg_init_71 : decode cPg_init 71 = .ok (.putfield 35, 3) := by decide +kernel
theorem dPg_init_74 : decode cPg_init 74 = .ok (.aload_n 0, 1) := by decide +kernel
theorem dPg_init_75 : decode cPg_init 75 = .ok (.iconst (-1), 1) := by decide +kernel
theorem dPg_init_76 : decode cPg_init 76 = .ok (.putfield 38, 3) := by decide +kernel
theorem dPg_init_79 : decode cPg_init 79 = .ok (.return_, 1) := by decide +kernel
theorem dPa_init_0 : decode cPa_init 0 = .ok (.aload_n 0, 1) := by decide +kernel
theorem dPa_init_1 : decode cPa_init 1 = .ok (.invokespecial 1, 3) := by decide +kernel
theorem dPa_init_4 : decode cPa_init 4 = .ok (.aload_n 0, 1) := by decide +kernel
theorem dPa_init_5 : decode cPa_init 5 = .ok (.new 7, 3) := by decide +kernel
theorem dPa_init_8 : decode cPa_init 8 = .ok (.dup, 1) := by decide +kernel
theorem dPa_init_9 : decode cPa_init 9 = .ok (.invokespecial 9, 3) := by decide +kernel
theorem dPa_init_12 : decode cPa_init 12 = .ok (.putfield 10, 3) := by decide +kernel
theorem dPa_init_15 : decode cPa_init 15 = .ok (.aload_n 0, 1) := by decide +kernel
theorem dPa_init_16 : decode cPa_init 16 = .ok (.aload_n 1, 1) := by decide +kernel
theorem dPa_init_17 : decode cPa_init 17 = .ok (.putfield 16, 3) := by decide +kernel
theorem dPa_init_20 : decode cPa_init 20 = .ok (.aload_n 0, 1) := by decide +kernel
theorem dPa_init_21 : decode cPa_init 21 = .ok (.new 20, 3) := by decide +kernel
theorem dPa_init_24 : decode cPa_init 24 = .ok (.dup, 1) := by decide +kernel
theorem dPa_init_25 : decode cPa_init 25 = .ok (.aload_n 2, 1) := by decide +kernel
theorem dPa_init_26 : decode cPa_init 26 = .ok (.invokespecial 22, 3) := by decide +kernel
theorem dPa_init_29 : decode cPa_init 29 = .ok (.putfield 25, 3) := by decide +kernel
theorem dPa_init_32 : decode cPa_init 32 = .ok (.aload_n 0, 1) := by decide +kernel
theorem dPa_init_33 : decode cPa_init 33 = .ok (.new 29, 3) := by decide +kernel
theorem dPa_init_36 : decode cPa_init 36 = .ok (.dup, 1) := by decide +kernel
theorem dPa_init_37 : decode cPa_init 37 = .ok (.aload_n 0, 1) := by decide +kernel
theorem dPa_init_38 : decode cPa_init 38 = .ok (.getfield 25, 3) := by decide +kernel
theorem dPa_init_41 : decode cPa_init 41 = .ok (.aload_n 0, 1) := by decide +kernel
theorem dPa_init_42 : decode cPa_init 42 = .ok (.getfield 10, 3) := by decide +kernel
theorem dPa_init_45 : decode cPa_init 45 = .ok (.aload_n 1, 1) := by decide +kernel
theorem dPa_init_46 : decode cPa_init 46 = .ok (.invokespecial 31, 3) := by decide +kernel
theorem dPa_init_49 : decode cPa_init 49 = .ok (.putfield 34, 3) := by decide +kernel
theorem dPa_init_52 : decode cPa_init 52 = .ok (.return_, 1) := by decide +kernel
theorem dNm_init_0 : decode cNm_init 0 = .ok (.aload_n 0, 1) := by decide +kernel
theorem dNm_init_1 : decode cNm_init 1 = .ok (.invokespecial 1, 3) := by decide +kernel
theorem dNm_init_4 : decode cNm_init 4 = .ok (.aload_n 0, 1) := by decide +kernel
theorem dNm_init_5 : decode cNm_init 5 = .ok (.sipush 200, 3) := by decide +kernel
theorem dNm_init_8 : decode cNm_init 8 = .ok (.newarray .int, 2) := by decide +kernel
theorem dNm_init_10 : decode cNm_init 10 = .ok (.putfield 9, 3) := by decide +kernel
theorem dNm_init_13 : decode cNm_init 13 = .ok (.aload_n 0, 1) := by decide +kernel
theorem dNm_init_14 : decode cNm_init 14 = .ok (.sipush 200, 3) := by decide +kernel
theorem dNm_init_17 : decode cNm_init 17 = .ok (.newarray .int, 2) := by decide +kernel
theorem dNm_init_19 : decode cNm_init 19 = .ok (.putfield 13, 3) := by decide +kernel
theorem dNm_init_22 : decode cNm_init 22 = .ok (.aload_n 0, 1) := by decide +kernel
theorem dNm_init_23 : decode cNm_init 23 = .ok (.sipush 200, 3) := by decide +kernel
theorem dNm_init_26 : decode cNm_init 26 = .ok (.newarray .int, 2) := by decide +kernel
theorem dNm_init_28 : decode cNm_init 28 = .ok (.putfield 16, 3) := by decide +kernel
theorem dNm_init_31 : decode cNm_init 31 = .ok (.aload_n 0, 1) := by decide +kernel
theorem dNm_init_32 : decode cNm_init 32 = .ok (.sipush 200, 3) := by decide +kernel
theorem dNm_init_35 : decode cNm_init 35 = .ok (.newarray .int, 2) := by decide +kernel
theorem dNm_init_37 : decode cNm_init 37 = .ok (.putfield 19, 3) := by decide +kernel
theorem dNm_init_40 : decode cNm_init 40 = .ok (.return_, 1) := by decide +kernel
theorem dTk_init_0 : decode cTk_init 0 = .ok (.aload_n 0, 1) := by decide +kernel
theorem dTk_init_1 : decode cTk_init 1 = .ok (.invokespecial 1, 3) := by decide +kernel
theorem dTk_init_4 : decode cTk_init 4 = .ok (.aload_n 0, 1) := by decide +kernel
theorem dTk_init_5 : decode cTk_init 5 = .ok (.sipush 8002, 3) := by decide +kernel
theorem dTk_init_8 : decode cTk_init 8 = .ok (.newarray .int, 2) := by decide +kernel
theorem dTk_init_10 : decode cTk_init 10 = .ok (.putfield 9, 3) := by decide +kernel
theorem dTk_init_13 : decode cTk_init 13 = .ok (.aload_n 0, 1) := by decide +kernel
theorem dTk_init_14 : decode cTk_init 14 = .ok (.sipush 8002, 3) := by decide +kernel
theorem dTk_init_17 : decode cTk_init 17 = .ok (.newarray .int, 2) := by decide +kernel
theorem dTk_init_19 : decode cTk_init 19 = .ok (.putfield 13, 3) := by decide +kernel
theorem dTk_init_22 : decode cTk_init 22 = .ok (.aload_n 0, 1) := by decide +kernel
theorem dTk_init_23 : decode cTk_init 23 = .ok (.sipush 8002, 3) := by decide +kernel
theorem dTk_init_26 : decode cTk_init 26 = .ok (.newarray .int, 2) := by decide +kernel
theorem dTk_init_28 : decode cTk_init 28 = .ok (.putfield 16, 3) := by decide +kernel
theorem dTk_init_31 : decode cTk_init 31 = .ok (.aload_n 0, 1) := by decide +kernel
theorem dTk_init_32 : decode cTk_init 32 = .ok (.aload_n 1, 1) := by decide +kernel
theorem dTk_init_33 : decode cTk_init 33 = .ok (.putfield 19, 3) := by decide +kernel
theorem dTk_init_36 : decode cTk_init 36 = .ok (.return_, 1) := by decide +kernel
theorem dEx_init_0 : decode cEx_init 0 = .ok (.aload_n 0, 1) := by decide +kernel
theorem dEx_init_1 : decode cEx_init 1 = .ok (.invokespecial 3, 3) := by decide +kernel
theorem dEx_init_4 : decode cEx_init 4 = .ok (.aload_n 0, 1) := by decide +kernel
theorem dEx_init_5 : decode cEx_init 5 = .ok (.sipush 520, 3) := by decide +kernel
theorem dEx_init_8 : decode cEx_init 8 = .ok (.newarray .int, 2) := by decide +kernel
theorem dEx_init_10 : decode cEx_init 10 = .ok (.putfield 11, 3) := by decide +kernel
theorem dEx_init_13 : decode cEx_init 13 = .ok (.aload_n 0, 1) := by decide +kernel
theorem dEx_init_14 : decode cEx_init 14 = .ok (.sipush 520, 3) := by decide +kernel
theorem dEx_init_17 : decode cEx_init 17 = .ok (.newarray .int, 2) := by decide +kernel
theorem dEx_init_19 : decode cEx_init 19 = .ok (.putfield 15, 3) := by decide +kernel
theorem dEx_init_22 : decode cEx_init 22 = .ok (.aload_n 0, 1) := by decide +kernel
theorem dEx_init_23 : decode cEx_init 23 = .ok (.aload_n 1, 1) := by decide +kernel
theorem dEx_init_24 : decode cEx_init 24 = .ok (.putfield 18, 3) := by decide +kernel
theorem dEx_init_27 : decode cEx_init 27 = .ok (.aload_n 0, 1) := by decide +kernel
theorem dEx_init_28 : decode cEx_init 28 = .ok (.aload_n 2, 1) := by decide +kernel
theorem dEx_init_29 : decode cEx_init 29 = .ok (.putfield 22, 3) := by decide +kernel
theorem dEx_init_32 : decode cEx_init 32 = .ok (.aload_n 0, 1) := by decide +kernel
theorem dEx_init_33 : decode cEx_init 33 = .ok (.aload_n 3, 1) := by decide +kernel
theorem dEx_init_34 : decode cEx_init 34 = .ok (.putfield 26, 3) := by decide +kernel
theorem dEx_init_37 : decode cEx_init 37 = .ok (.return_, 1) := by decide +kernel
theorem dGa_init_0 : decode cGa_init 0 = .ok (.aload_n 0, 1) := by decide +kernel
theorem dGa_init_1 : decode cGa_init 1 = .ok (.invokespecial 1, 3) := by decide +kernel
theorem dGa_init_4 : decode cGa_init 4 = .ok (.aload_n 0, 1) := by decide +kernel
theorem dGa_init_5 : decode cGa_init 5 = .ok (.ldc 9, 2) := by decide +kernel
theorem dGa_init_7 : decode cGa_init 7 = .ok (.newarray .byte, 2) := by decide +kernel
theorem dGa_init_9 : decode cGa_init 9 = .ok (.putfield 10, 3) := by decide +kernel
theorem dGa_init_12 : decode cGa_init 12 = .ok (.aload_n 0, 1) := by decide +kernel
theorem dGa_init_13 : decode cGa_init 13 = .ok (.ldc 9, 2) := by decide +kernel
theorem dGa_init_15 : decode cGa_init 15 = .ok (.newarray .int, 2) := by decide +kernel
theorem dGa_init_17 : decode cGa_init 17 = .ok (.putfield 14, 3) := by decide +kernel
theorem dGa_init_20 : decode cGa_init 20 = .ok (.aload_n 0, 1) := by decide +kernel
theorem dGa_init_21 : decode cGa_init 21 = .ok (.ldc 9, 2) := by decide +kernel
theorem dGa_init_23 : decode cGa_init 23 = .ok (.newarray .int, 2) := by decide +kernel
theorem dGa_init_25 : decode cGa_init 25 = .ok (.putfield 18, 3) := by decide +kernel
theorem dGa_init_28 : decode cGa_init 28 = .ok (.aload_n 0, 1) := by decide +kernel
theorem dGa_init_29 : decode cGa_init 29 = .ok (.ldc 9, 2) := by decide +kernel
theorem dGa_init_31 : decode cGa_init 31 = .ok (.newarray .int, 2) := by decide +kernel
theorem dGa_init_33 : decode cGa_init 33 = .ok (.putfield 21, 3) := by decide +kernel
theorem dGa_init_36 : decode cGa_init 36 = .ok (.aload_n 0, 1) := by decide +kernel
theorem dGa_init_37 : decode cGa_init 37 = .ok (.ldc 9, 2) := by decide +kernel
theorem dGa_init_39 : decode cGa_init 39 = .ok (.newarray .byte, 2) := by decide +kernel
theorem dGa_init_41 : decode cGa_init 41 = .ok (.putfield 24, 3) := by decide +kernel
theorem dGa_init_44 : decode cGa_init 44 = .ok (.aload_n 0, 1) := by decide +kernel
theorem dGa_init_45 : decode cGa_init 45 = .ok (.ldc 9, 2) := by decide +kernel
theorem dGa_init_47 : decode cGa_init 47 = .ok (.newarray .byte, 2) := by decide +kernel
theorem dGa_init_49 : decode cGa_init 49 = .ok (.putfield 27, 3) := by decide +kernel
theorem dGa_init_52 : decode cGa_init 52 = .ok (.aload_n 0, 1) := by decide +kernel
theorem dGa_init_53 : decode cGa_init 53 = .ok (.ldc 30, 2) := by decide +kernel
theorem dGa_init_55 : decode cGa_init 55 = .ok (.newarray .int, 2) := by decide +kernel
theorem dGa_init_57 : decode cGa_init 57 = .ok (.putfield 31, 3) := by decide +kernel
theorem dGa_init_60 : decode cGa_init 60 = .ok (.aload_n 0, 1) := by decide +kernel
theorem dGa_init_61 : decode cGa_init 61 = .ok (.ldc 9, 2) := by decide +kernel
theorem dGa_init_63 : decode cGa_init 63 = .ok (.newarray .int, 2) := by decide +kernel
theorem dGa_init_65 : decode cGa_init 65 = .ok (.putfield 34, 3) := by decide +kernel
theorem dGa_init_68 : decode cGa_init 68 = .ok (.aload_n 0, 1) := by decide +kernel
theorem dGa_init_69 : decode cGa_init 69 = .ok (.iconst 1, 1) := by decide +kernel
theorem dGa_init_70 : decode cGa_init 70 = .ok (.putfield 37, 3) := by decide +kernel
theorem dGa_init_73 : decode cGa_init 73 = .ok (.return_, 1) := by decide +kernel
theorem dUn_init_0 : decode cUn_init 0 = .ok (.aload_n 0, 1) := by decide +kernel
theorem dUn_init_1 : decode cUn_init 1 = .ok (.invokespecial 1, 3) := by decide +kernel
theorem dUn_init_4 : decode cUn_init 4 = .ok (.aload_n 0, 1) := by decide +kernel
theorem dUn_init_5 : decode cUn_init 5 = .ok (.sipush 201, 3) := by decide +kernel
theorem dUn_init_8 : decode cUn_init 8 = .ok (.newarray .int, 2) := by decide +kernel
theorem dUn_init_10 : decode cUn_init 10 = .ok (.putfield 9, 3) := by decide +kernel
theorem dUn_init_13 : decode cUn_init 13 = .ok (.aload_n 0, 1) := by decide +kernel
theorem dUn_init_14 : decode cUn_init 14 = .ok (.sipush 201, 3) := by decide +kernel
theorem dUn_init_17 : decode cUn_init 17 = .ok (.newarray .int, 2) := by decide +kernel
theorem dUn_init_19 : decode cUn_init 19 = .ok (.putfield 13, 3) := by decide +kernel
theorem dUn_init_22 : decode cUn_init 22 = .ok (.aload_n 0, 1) := by decide +kernel
theorem dUn_init_23 : decode cUn_init 23 = .ok (.sipush 201, 3) := by decide +kernel
theorem dUn_init_26 : decode cUn_init 26 = .ok (.newarray .int, 2) := by decide +kernel
theorem dUn_init_28 : decode cUn_init 28 = .ok (.putfield 16, 3) := by decide +kernel
theorem dUn_init_31 : decode cUn_init 31 = .ok (.aload_n 0, 1) := by decide +kernel
theorem dUn_init_32 : decode cUn_init 32 = .ok (.sipush 25600, 3) := by decide +kernel
theorem dUn_init_35 : decode cUn_init 35 = .ok (.newarray .int, 2) := by decide +kernel
theorem dUn_init_37 : decode cUn_init 37 = .ok (.putfield 25, 3) := by decide +kernel
theorem dUn_init_40 : decode cUn_init 40 = .ok (.aload_n 0, 1) := by decide +kernel
theorem dUn_init_41 : decode cUn_init 41 = .ok (.bipush 30, 2) := by decide +kernel
theorem dUn_init_43 : decode cUn_init 43 = .ok (.newarray .int, 2) := by decide +kernel
theorem dUn_init_45 : decode cUn_init 45 = .ok (.putfield 28, 3) := by decide +kernel
theorem dUn_init_48 : decode cUn_init 48 = .ok (.aload_n 0, 1) := by decide +kernel
theorem dUn_init_49 : decode cUn_init 49 = .ok (.bipush 30, 2) := by decide +kernel
theorem dUn_init_51 : decode cUn_init 51 = .ok (.newarray .int, 2) := by decide +kernel
theorem dUn_init_53 : decode cUn_init 53 = .ok (.putfield 31, 3) := by decide +kernel
theorem dUn_init_56 : decode cUn_init 56 = .ok (.aload_n 0, 1) := by decide +kernel
theorem dUn_init_57 : decode cUn_init 57 = .ok (.bipush 12, 2) := by decide +kernel
theorem dUn_init_59 : decode cUn_init 59 = .ok (.newarray .int, 2) := by decide +kernel
theorem dUn_init_61 : decode cUn_init 61 = .ok (.putfield 34, 3) := by decide +kernel
theorem dUn_init_64 : decode cUn_init 64 = .ok (.aload_n 0, 1) := by decide +kernel
theorem dUn_init_65 : decode cUn_init 65 = .ok (.bipush 12, 2) := by decide +kernel
theorem dUn_init_67 : decode cUn_init 67 = .ok (.newarray .int, 2) := by decide +kernel
theorem dUn_init_69 : decode cUn_init 69 = .ok (.putfield 37, 3) := by decide +kernel
theorem dUn_init_72 : decode cUn_init 72 = .ok (.aload_n 0, 1) := by decide +kernel
theorem dUn_init_73 : decode cUn_init 73 = .ok (.aload_n 1, 1) := by decide +kernel
theorem dUn_init_74 : decode cUn_init 74 = .ok (.putfield 40, 3) := by decide +kernel
theorem dUn_init_77 : decode cUn_init 77 = .ok (.aload_n 0, 1) := by decide +kernel
theorem dUn_init_78 : decode cUn_init 78 = .ok (.aload_n 2, 1) := by decide +kernel
theorem dUn_init_79 : decode cUn_init 79 = .ok (.putfield 44, 3) := by decide +kernel
theorem dUn_init_82 : decode cUn_init 82 = .ok (.aload_n 0, 1) := by decide +kernel
theorem dUn_init_83 : decode cUn_init 83 = .ok (.new 23, 3) := by decide +kernel
theorem dUn_init_86 : decode cUn_init 86 = .ok (.dup, 1) := by decide +kernel
theorem dUn_init_87 : decode cUn_init 87 = .ok (.aload_n 2, 1) := by decide +kernel
theorem dUn_init_88 : decode cUn_init 88 = .ok (.invokespecial 48, 3) := by decide +kernel
theorem dUn_init_91 : decode cUn_init 91 = .ok (.putfield 51, 3) := by decide +kernel
theorem dUn_init_94 : decode cUn_init 94 = .ok (.return_, 1) := by decide +kernel
theorem dWo_init_0 : decode cWo_init 0 = .ok (.aload_n 0, 1) := by decide +kernel
theorem dWo_init_1 : decode cWo_init 1 = .ok (.invokespecial 1, 3) := by decide +kernel
theorem dWo_init_4 : decode cWo_init 4 = .ok (.aload_n 0, 1) := by decide +kernel
theorem dWo_init_5 : decode cWo_init 5 = .ok (.sipush 13600, 3) := by decide +kernel
theorem dWo_init_8 : decode cWo_init 8 = .ok (.newarray .int, 2) := by decide +kernel
theorem dWo_init_10 : decode cWo_init 10 = .ok (.putfield 9, 3) := by decide +kernel
theorem dWo_init_13 : decode cWo_init 13 = .ok (.aload_n 0, 1) := by decide +kernel
theorem dWo_init_14 : decode cWo_init 14 = .ok (.bipush 8, 2) := by decide +kernel
theorem dWo_init_16 : decode cWo_init 16 = .ok (.newarray .int, 2) := by decide +kernel
theorem dWo_init_18 : decode cWo_init 18 = .ok (.putfield 13, 3) := by decide +kernel
theorem dWo_init_21 : decode cWo_init 21 = .ok (.aload_n 0, 1) := by decide +kernel
theorem dWo_init_22 : decode cWo_init 22 = .ok (.bipush 8, 2) := by decide +kernel
theorem dWo_init_24 : decode cWo_init 24 = .ok (.newarray .int, 2) := by decide +kernel
theorem dWo_init_26 : decode cWo_init 26 = .ok (.putfield 16, 3) := by decide +kernel
theorem dWo_init_29 : decode cWo_init 29 = .ok (.aload_n 0, 1) := by decide +kernel
theorem dWo_init_30 : decode cWo_init 30 = .ok (.sipush 128, 3) := by decide +kernel
theorem dWo_init_33 : decode cWo_init 33 = .ok (.newarray .int, 2) := by decide +kernel
theorem dWo_init_35 : decode cWo_init 35 = .ok (.putfield 21, 3) := by decide +kernel
theorem dWo_init_38 : decode cWo_init 38 = .ok (.aload_n 0, 1) := by decide +kernel
theorem dWo_init_39 : decode cWo_init 39 = .ok (.aload_n 1, 1) := by decide +kernel
theorem dWo_init_40 : decode cWo_init 40 = .ok (.putfield 24, 3) := by decide +kernel
theorem dWo_init_43 : decode cWo_init 43 = .ok (.return_, 1) := by decide +kernel
theorem dCl_init_0 : decode cCl_init 0 = .ok (.aload_n 0, 1) := by decide +kernel
theorem dCl_init_1 : decode cCl_init 1 = .ok (.invokespecial 5, 3) := by decide +kernel
theorem dCl_init_4 : decode cCl_init 4 = .ok (.aload_n 0, 1) := by decide +kernel
theorem dCl_init_5 : decode cCl_init 5 = .ok (.ldc 11, 2) := by decide +kernel
theorem dCl_init_7 : decode cCl_init 7 = .ok (.newarray .int, 2) := by decide +kernel
theorem dCl_init_9 : decode cCl_init 9 = .ok (.putfield 12, 3) := by decide +kernel
theorem dCl_init_12 : decode cCl_init 12 = .ok (.aload_n 0, 1) := by decide +kernel
theorem dCl_init_13 : decode cCl_init 13 = .ok (.ldc 16, 2) := by decide +kernel
theorem dCl_init_15 : decode cCl_init 15 = .ok (.newarray .int, 2) := by decide +kernel
theorem dCl_init_17 : decode cCl_init 17 = .ok (.putfield 17, 3) := by decide +kernel
theorem dCl_init_20 : decode cCl_init 20 = .ok (.return_, 1) := by decide +kernel
theorem dCk_init_0 : decode cCk_init 0 = .ok (.aload_n 0, 1) := by decide +kernel
theorem dCk_init_1 : decode cCk_init 1 = .ok (.invokespecial 1, 3) := by decide +kernel
theorem dCk_init_4 : decode cCk_init 4 = .ok (.aload_n 0, 1) := by decide +kernel
theorem dCk_init_5 : decode cCk_init 5 = .ok (.ldc 9, 2) := by decide +kernel
theorem dCk_init_7 : decode cCk_init 7 = .ok (.newarray .byte, 2) := by decide +kernel
theorem dCk_init_9 : decode cCk_init 9 = .ok (.putfield 10, 3) := by decide +kernel
theorem dCk_init_12 : decode cCk_init 12 = .ok (.aload_n 0, 1) := by decide +kernel
theorem dCk_init_13 : decode cCk_init 13 = .ok (.ldc 16, 2) := by decide +kernel
theorem dCk_init_15 : decode cCk_init 15 = .ok (.newarray .int, 2) := by decide +kernel
theorem dCk_init_17 : decode cCk_init 17 = .ok (.putfield 17, 3) := by decide +kernel
theorem dCk_init_20 : decode cCk_init 20 = .ok (.aload_n 0, 1) := by decide +kernel
theorem dCk_init_21 : decode cCk_init 21 = .ok (.aload_n 1, 1) := by decide +kernel
theorem dCk_init_22 : decode cCk_init 22 = .ok (.putfield 21, 3) := by decide +kernel
theorem dCk_init_25 : decode cCk_init 25 = .ok (.return_, 1) := by decide +kernel
theorem dSe_init_0 : decode cSe_init 0 = .ok (.aload_n 0, 1) := by decide +kernel
theorem dSe_init_1 : decode cSe_init 1 = .ok (.invokespecial 1, 3) := by decide +kernel
theorem dSe_init_4 : decode cSe_init 4 = .ok (.aload_n 0, 1) := by decide +kernel
theorem dSe_init_5 : decode cSe_init 5 = .ok (.ldc 9, 2) := by decide +kernel
theorem dSe_init_7 : decode cSe_init 7 = .ok (.newarray .int, 2) := by decide +kernel
theorem dSe_init_9 : decode cSe_init 9 = .ok (.putfield 10, 3) := by decide +kernel
theorem dSe_init_12 : decode cSe_init 12 = .ok (.aload_n 0, 1) := by decide +kernel
theorem dSe_init_13 : decode cSe_init 13 = .ok (.ldc 9, 2) := by decide +kernel
theorem dSe_init_15 : decode cSe_init 15 = .ok (.newarray .int, 2) := by decide +kernel
theorem dSe_init_17 : decode cSe_init 17 = .ok (.putfield 16, 3) := by decide +kernel
theorem dSe_init_20 : decode cSe_init 20 = .ok (.aload_n 0, 1) := by decide +kernel
theorem dSe_init_21 : decode cSe_init 21 = .ok (.ldc 21, 2) := by decide +kernel
theorem dSe_init_23 : decode cSe_init 23 = .ok (.newarray .int, 2) := by decide +kernel
theorem dSe_init_25 : decode cSe_init 25 = .ok (.putfield 22, 3) := by decide +kernel
theorem dSe_init_28 : decode cSe_init 28 = .ok (.aload_n 0, 1) := by decide +kernel
theorem dSe_init_29 : decode cSe_init 29 = .ok (.ldc 21, 2) := by decide +kernel
theorem dSe_init_31 : decode cSe_init 31 = .ok (.newarray .byte, 2) := by decide +kernel
theorem dSe_init_33 : decode cSe_init 33 = .ok (.putfield 25, 3) := by decide +kernel
theorem dSe_init_36 : decode cSe_init 36 = .ok (.aload_n 0, 1) := by decide +kernel
theorem dSe_init_37 : decode cSe_init 37 = .ok (.ldc 29, 2) := by decide +kernel
theorem dSe_init_39 : decode cSe_init 39 = .ok (.newarray .byte, 2) := by decide +kernel
theorem dSe_init_41 : decode cSe_init 41 = .ok (.putfield 30, 3) := by decide +kernel
theorem dSe_init_44 : decode cSe_init 44 = .ok (.aload_n 0, 1) := by decide +kernel
theorem dSe_init_45 : decode cSe_init 45 = .ok (.ldc 29, 2) := by decide +kernel
theorem dSe_init_47 : decode cSe_init 47 = .ok (.newarray .int, 2) := by decide +kernel
theorem dSe_init_49 : decode cSe_init 49 = .ok (.putfield 33, 3) := by decide +kernel
theorem dSe_init_52 : decode cSe_init 52 = .ok (.aload_n 0, 1) := by decide +kernel
theorem dSe_init_53 : decode cSe_init 53 = .ok (.ldc 29, 2) := by decide +kernel
theorem dSe_init_55 : decode cSe_init 55 = .ok (.newarray .int, 2) := by decide +kernel
theorem dSe_init_57 : decode cSe_init 57 = .ok (.putfield 36, 3) := by decide +kernel
theorem dSe_init_60 : decode cSe_init 60 = .ok (.aload_n 0, 1) := by decide +kernel
theorem dSe_init_61 : decode cSe_init 61 = .ok (.bipush 14, 2) := by decide +kernel
theorem dSe_init_63 : decode cSe_init 63 = .ok (.newarray .int, 2) := by decide +kernel
theorem dSe_init_65 : decode cSe_init 65 = .ok (.putfield 41, 3) := by decide +kernel
theorem dSe_init_68 : decode cSe_init 68 = .ok (.aload_n 0, 1) := by decide +kernel
theorem dSe_init_69 : decode cSe_init 69 = .ok (.ldc 29, 2) := by decide +kernel
theorem dSe_init_71 : decode cSe_init 71 = .ok (.newarray .byte, 2) := by decide +kernel
theorem dSe_init_73 : decode cSe_init 73 = .ok (.putfield 44, 3) := by decide +kernel
theorem dSe_init_76 : decode cSe_init 76 = .ok (.aload_n 0, 1) := by decide +kernel
theorem dSe_init_77 : decode cSe_init 77 = .ok (.ldc 29, 2) := by decide +kernel
theorem dSe_init_79 : decode cSe_init 79 = .ok (.newarray .int, 2) := by decide +kernel
theorem dSe_init_81 : decode cSe_init 81 = .ok (.putfield 47, 3) := by decide +kernel
theorem dSe_init_84 : decode cSe_init 84 = .ok (.aload_n 0, 1) := by decide +kernel
theorem dSe_init_85 : decode cSe_init 85 = .ok (.ldc 50, 2) := by decide +kernel
theorem dSe_init_87 : decode cSe_init 87 = .ok (.newarray .int, 2) := by decide +kernel
theorem dSe_init_89 : decode cSe_init 89 = .ok (.putfield 51, 3) := by decide +kernel
theorem dSe_init_92 : decode cSe_init 92 = .ok (.aload_n 0, 1) := by decide +kernel
theorem dSe_init_93 : decode cSe_init 93 = .ok (.aload_n 1, 1) := by decide +kernel
theorem dSe_init_94 : decode cSe_init 94 = .ok (.putfield 54, 3) := by decide +kernel
theorem dSe_init_97 : decode cSe_init 97 = .ok (.aload_n 0, 1) := by decide +kernel
theorem dSe_init_98 : decode cSe_init 98 = .ok (.aload_n 2, 1) := by decide +kernel
theorem dSe_init_99 : decode cSe_init 99 = .ok (.putfield 58, 3) := by decide +kernel
theorem dSe_init_102 : decode cSe_init 102 = .ok (.return_, 1) := by decide +kernel
theorem dMo_init_0 : decode cMo_init 0 = .ok (.aload_n 0, 1) := by decide +kernel
theorem dMo_init_1 : decode cMo_init 1 = .ok (.invokespecial 1, 3) := by decide +kernel
theorem dMo_init_4 : decode cMo_init 4 = .ok (.aload_n 0, 1) := by decide +kernel
theorem dMo_init_5 : decode cMo_init 5 = .ok (.ldc 7, 2) := by decide +kernel
theorem dMo_init_7 : decode cMo_init 7 = .ok (.newarray .byte, 2) := by decide +kernel
theorem dMo_init_9 : decode cMo_init 9 = .ok (.putfield 8, 3) := by decide +kernel
theorem dMo_init_12 : decode cMo_init 12 = .ok (.aload_n 0, 1) := by decide +kernel
theorem dMo_init_13 : decode cMo_init 13 = .ok (.iconst 0, 1) := by decide +kernel
theorem dMo_init_14 : decode cMo_init 14 = .ok (.putfield 14, 3) := by decide +kernel
theorem dMo_init_17 : decode cMo_init 17 = .ok (.aload_n 0, 1) := by decide +kernel
theorem dMo_init_18 : decode cMo_init 18 = .ok (.iconst 0, 1) := by decide +kernel
theorem dMo_init_19 : decode cMo_init 19 = .ok (.putfield 18, 3) := by decide +kernel
theorem dMo_init_22 : decode cMo_init 22 = .ok (.aload_n 0, 1) := by decide +kernel
theorem dMo_init_23 : decode cMo_init 23 = .ok (.iconst 0, 1) := by decide +kernel
theorem dMo_init_24 : decode cMo_init 24 = .ok (.putfield 21, 3) := by decide +kernel
theorem dMo_init_27 : decode cMo_init 27 = .ok (.aload_n 0, 1) := by decide +kernel
theorem dMo_init_28 : decode cMo_init 28 = .ok (.iconst 0, 1) := by decide +kernel
theorem dMo_init_29 : decode cMo_init 29 = .ok (.putfield 24, 3) := by decide +kernel
theorem dMo_init_32 : decode cMo_init 32 = .ok (.aload_n 0, 1) := by decide +kernel
theorem dMo_init_33 : decode cMo_init 33 = .ok (.iconst 0, 1) := by decide +kernel
theorem dMo_init_34 : decode cMo_init 34 = .ok (.putfield 27, 3) := by decide +kernel
theorem dMo_init_37 : decode cMo_init 37 = .ok (.aload_n 0, 1) := by decide +kernel
theorem dMo_init_38 : decode cMo_init 38 = .ok (.iconst 0, 1) := by decide +kernel
theorem dMo_init_39 : decode cMo_init 39 = .ok (.putfield 31, 3) := by decide +kernel
theorem dMo_init_42 : decode cMo_init 42 = .ok (.aload_n 0, 1) := by decide +kernel
theorem dMo_init_43 : decode cMo_init 43 = .ok (.iconst 0, 1) := by decide +kernel
theorem dMo_init_44 : decode cMo_init 44 = .ok (.putfield 34, 3) := by decide +kernel
theorem dMo_init_47 : decode cMo_init 47 = .ok (.aload_n 0, 1) := by decide +kernel
theorem dMo_init_48 : decode cMo_init 48 = .ok (.iconst 0, 1) := by decide +kernel
theorem dMo_init_49 : decode cMo_init 49 = .ok (.putfield 37, 3) := by decide +kernel
theorem dMo_init_52 : decode cMo_init 52 = .ok (.aload_n 0, 1) := by decide +kernel
theorem dMo_init_53 : decode cMo_init 53 = .ok (.iconst 0, 1) := by decide +kernel
theorem dMo_init_54 : decode cMo_init 54 = .ok (.putfield 40, 3) := by decide +kernel
theorem dMo_init_57 : decode cMo_init 57 = .ok (.aload_n 0, 1) := by decide +kernel
theorem dMo_init_58 : decode cMo_init 58 = .ok (.iconst 0, 1) := by decide +kernel
theorem dMo_init_59 : decode cMo_init 59 = .ok (.putfield 43, 3) := by decide +kernel
theorem dMo_init_62 : decode cMo_init 62 = .ok (.aload_n 0, 1) := by decide +kernel
theorem dMo_init_63 : decode cMo_init 63 = .ok (.iconst 0, 1) := by decide +kernel
theorem dMo_init_64 : decode cMo_init 64 = .ok (.putfield 46, 3) := by decide +kernel
theorem dMo_init_67 : decode cMo_init 67 = .ok (.aload_n 0, 1) := by decide +kernel
theorem dMo_init_68 : decode cMo_init 68 = .ok (.sipush 220, 3) := by decide +kernel
theorem dMo_init_71 : decode cMo_init 71 = .ok (.newarray .int, 2) := by decide +kernel
theorem dMo_init_73 : decode cMo_init 73 = .ok (.putfield 49, 3) := by decide +kernel
theorem dMo_init_76 : decode cMo_init 76 = .ok (.aload_n 0, 1) := by decide +kernel
theorem dMo_init_77 : decode cMo_init 77 = .ok (.sipush 220, 3) := by decide +kernel
theorem dMo_init_80 : decode cMo_init 80 = .ok (.newarray .int, 2) := by decide +kernel
theorem dMo_init_82 : decode cMo_init 82 = .ok (.putfield 53, 3) := by decide +kernel
theorem dMo_init_85 : decode cMo_init 85 = .ok (.aload_n 0, 1) := by decide +kernel
theorem dMo_init_86 : decode cMo_init 86 = .ok (.sipush 220, 3) := by decide +kernel
theorem dMo_init_89 : decode cMo_init 89 = .ok (.newarray .int, 2) := by decide +kernel
theorem dMo_init_91 : decode cMo_init 91 = .ok (.putfield 56, 3) := by decide +kernel
theorem dMo_init_94 : decode cMo_init 94 = .ok (.aload_n 0, 1) := by decide +kernel
theorem dMo_init_95 : decode cMo_init 95 = .ok (.sipush 220, 3) := by decide +kernel
theorem dMo_init_98 : decode cMo_init 98 = .ok (.newarray .int, 2) := by decide +kernel
theorem dMo_init_100 : decode cMo_init 100 = .ok (.putfield 59, 3) := by decide +kernel
theorem dMo_init_103 : decode cMo_init 103 = .ok (.aload_n 0, 1) := by decide +kernel
theorem dMo_init_104 : decode cMo_init 104 = .ok (.iconst 0, 1) := by decide +kernel
theorem dMo_init_105 : decode cMo_init 105 = .ok (.putfield 62, 3) := by decide +kernel
theorem dMo_init_108 : decode cMo_init 108 = .ok (.aload_n 0, 1) := by decide +kernel
theorem dMo_init_109 : decode cMo_init 109 = .ok (.iconst 0, 1) := by decide +kernel
theorem dMo_init_110 : decode cMo_init 110 = .ok (.putfield 65, 3) := by decide +kernel
theorem dMo_init_113 : decode cMo_init 113 = .ok (.aload_n 0, 1) := by decide +kernel
theorem dMo_init_114 : decode cMo_init 114 = .ok (.iconst 0, 1) := by decide +kernel
theorem dMo_init_115 : decode cMo_init 115 = .ok (.putfield 68, 3) := by decide +kernel
theorem dMo_init_118 : decode cMo_init 118 = .ok (.aload_n 0, 1) := by decide +kernel
theorem dMo_init_119 : decode cMo_init 119 = .ok (.sipush 220, 3) := by decide +kernel
theorem dMo_init_122 : decode cMo_init 122 = .ok (.newarray .int, 2) := by decide +kernel
theorem dMo_init_124 : decode cMo_init 124 = .ok (.putfield 71, 3) := by decide +kernel
theorem dMo_init_127 : decode cMo_init 127 = .ok (.aload_n 0, 1) := by decide +kernel
theorem dMo_init_128 : decode cMo_init 128 = .ok (.sipush 220, 3) := by decide +kernel
theorem dMo_init_131 : decode cMo_init 131 = .ok (.newarray .int, 2) := by decide +kernel
theorem dMo_init_133 : decode cMo_init 133 = .ok (.putfield 74, 3) := by decide +kernel
theorem dMo_init_136 : decode cMo_init 136 = .ok (.aload_n 0, 1) := by decide +kernel
theorem dMo_init_137 : decode cMo_init 137 = .ok (.iconst 0, 1) := by decide +kernel
theorem dMo_init_138 : decode cMo_init 138 = .ok (.putfield 77, 3) := by decide +kernel
theorem dMo_init_141 : decode cMo_init 141 = .ok (.aload_n 0, 1) := by decide +kernel
theorem dMo_init_142 : decode cMo_init 142 = .ok (.iconst 0, 1) := by decide +kernel
theorem dMo_init_143 : decode cMo_init 143 = .ok (.putfield 80, 3) := by decide +kernel
theorem dMo_init_146 : decode cMo_init 146 = .ok (.aload_n 0, 1) := by decide +kernel
theorem dMo_init_147 : decode cMo_init 147 = .ok (.sipush 220, 3) := by decide +kernel
theorem dMo_init_150 : decode cMo_init 150 = .ok (.newarray .int, 2) := by decide +kernel
theorem dMo_init_152 : decode cMo_init 152 = .ok (.putfield 83, 3) := by decide +kernel
theorem dMo_init_155 : decode cMo_init 155 = .ok (.aload_n 0, 1) := by decide +kernel
theorem dMo_init_156 : decode cMo_init 156 = .ok (.sipush 220, 3) := by decide +kernel
theorem dMo_init_159 : decode cMo_init 159 = .ok (.newarray .int, 2) := by decide +kernel
theorem dMo_init_161 : decode cMo_init 161 = .ok (.putfield 86, 3) := by decide +kernel
theorem dMo_init_164 : decode cMo_init 164 = .ok (.aload_n 0, 1) := by decide +kernel
theorem dMo_init_165 : decode cMo_init 165 = .ok (.iconst 0, 1) := by decide +kernel
theorem dMo_init_166 : decode cMo_init 166 = .ok (.putfield 89, 3) := by decide +kernel
theorem dMo_init_169 : decode cMo_init 169 = .ok (.aload_n 0, 1) := by decide +kernel
theorem dMo_init_170 : decode cMo_init 170 = .ok (.sipush 17000, 3) := by decide +kernel
theorem dMo_init_173 : decode cMo_init 173 = .ok (.newarray .int, 2) := by decide +kernel
theorem dMo_init_175 : decode cMo_init 175 = .ok (.putfield 92, 3) := by decide +kernel
theorem dMo_init_178 : decode cMo_init 178 = .ok (.aload_n 0, 1) := by decide +kernel
theorem dMo_init_179 : decode cMo_init 179 = .ok (.sipush 17000, 3) := by decide +kernel
theorem dMo_init_182 : decode cMo_init 182 = .ok (.newarray .int, 2) := by decide +kernel
theorem dMo_init_184 : decode cMo_init 184 = .ok (.putfield 95, 3) := by decide +kernel
theorem dMo_init_187 : decode cMo_init 187 = .ok (.aload_n 0, 1) := by decide +kernel
theorem dMo_init_188 : decode cMo_init 188 = .ok (.sipush 17000, 3) := by decide +kernel
theorem dMo_init_191 : decode cMo_init 191 = .ok (.newarray .int, 2) := by decide +kernel
theorem dMo_init_193 : decode cMo_init 193 = .ok (.putfield 98, 3) := by decide +kernel
theorem dMo_init_196 : decode cMo_init 196 = .ok (.aload_n 0, 1) := by decide +kernel
theorem dMo_init_197 : decode cMo_init 197 = .ok (.sipush 17000, 3) := by decide +kernel
theorem dMo_init_200 : decode cMo_init 200 = .ok (.newarray .int, 2) := by decide +kernel
theorem dMo_init_202 : decode cMo_init 202 = .ok (.putfield 101, 3) := by decide +kernel
theorem dMo_init_205 : decode cMo_init 205 = .ok (.aload_n 0, 1) := by decide +kernel
theorem dMo_init_206 : decode cMo_init 206 = .ok (.sipush 17000, 3) := by decide +kernel
theorem dMo_init_209 : decode cMo_init 209 = .ok (.newarray .int, 2) := by decide +kernel
theorem dMo_init_211 : decode cMo_init 211 = .ok (.putfield 104, 3) := by decide +kernel
theorem dMo_init_214 : decode cMo_init 214 = .ok (.aload_n 0, 1) := by decide +kernel
theorem dMo_init_215 : decode cMo_init 215 = .ok (.sipush 17000, 3) := by decide +kernel
theorem dMo_init_218 : decode cMo_init 218 = .ok (.newarray .int, 2) := by decide +kernel
theorem dMo_init_220 : decode cMo_init 220 = .ok (.putfield 107, 3) := by decide +kernel
theorem dMo_init_223 : decode cMo_init 223 = .ok (.aload_n 0, 1) := by decide +kernel
theorem dMo_init_224 : decode cMo_init 224 = .ok (.sipush 17000, 3) := by decide +kernel
theorem dMo_init_227 : decode cMo_init 227 = .ok (.newarray .int, 2) := by decide +kernel
theorem dMo_init_229 : decode cMo_init 229 = .ok (.putfield 110, 3) := by decide +kernel
theorem dMo_init_232 : decode cMo_init 232 = .ok (.aload_n 0, 1) := by decide +kernel
theorem dMo_init_233 : decode cMo_init 233 = .ok (.iconst 0, 1) := by decide +kernel
theorem dMo_init_234 : decode cMo_init 234 = .ok (.putfield 113, 3) := by decide +kernel
theorem dMo_init_237 : decode cMo_init 237 = .ok (.aload_n 0, 1) := by decide +kernel
theorem dMo_init_238 : decode cMo_init 238 = .ok (.iconst 0, 1) := by decide +kernel
theorem dMo_init_239 : decode cMo_init 239 = .ok (.putfield 116, 3) := by decide +kernel
theorem dMo_init_242 : decode cMo_init 242 = .ok (.aload_n 0, 1) := by decide +kernel
theorem dMo_init_243 : decode cMo_init 243 = .ok (.iconst 0, 1) := by decide +kernel
theorem dMo_init_244 : decode cMo_init 244 = .ok (.putfield 119, 3) := by decide +kernel
theorem dMo_init_247 : decode cMo_init 247 = .ok (.aload_n 0, 1) := by decide +kernel
theorem dMo_init_248 : decode cMo_init 248 = .ok (.iconst 0, 1) := by decide +kernel
theorem dMo_init_249 : decode cMo_init 249 = .ok (.putfield 122, 3) := by decide +kernel
theorem dMo_init_252 : decode cMo_init 252 = .ok (.aload_n 0, 1) := by decide +kernel
theorem dMo_init_253 : decode cMo_init 253 = .ok (.iconst (-1), 1) := by decide +kernel
theorem dMo_init_254 : decode cMo_init 254 = .ok (.putfield 125, 3) := by decide +kernel
theorem dMo_init_257 : decode cMo_init 257 = .ok (.aload_n 0, 1) := by decide +kernel
theorem dMo_init_258 : decode cMo_init 258 = .ok (.iconst 0, 1) := by decide +kernel
theorem dMo_init_259 : decode cMo_init 259 = .ok (.putfield 128, 3) := by decide +kernel
theorem dMo_init_262 : decode cMo_init 262 = .ok (.aload_n 0, 1) := by decide +kernel
theorem dMo_init_263 : decode cMo_init 263 = .ok (.iconst 0, 1) := by decide +kernel
theorem dMo_init_264 : decode cMo_init 264 = .ok (.putfield 131, 3) := by decide +kernel
theorem dMo_init_267 : decode cMo_init 267 = .ok (.aload_n 0, 1) := by decide +kernel
theorem dMo_init_268 : decode cMo_init 268 = .ok (.bipush 30, 2) := by decide +kernel
theorem dMo_init_270 : decode cMo_init 270 = .ok (.newarray .int, 2) := by decide +kernel
theorem dMo_init_272 : decode cMo_init 272 = .ok (.putfield 134, 3) := by decide +kernel
theorem dMo_init_275 : decode cMo_init 275 = .ok (.aload_n 0, 1) := by decide +kernel
theorem dMo_init_276 : decode cMo_init 276 = .ok (.bipush 30, 2) := by decide +kernel
theorem dMo_init_278 : decode cMo_init 278 = .ok (.newarray .int, 2) := by decide +kernel
theorem dMo_init_280 : decode cMo_init 280 = .ok (.putfield 137, 3) := by decide +kernel
theorem dMo_init_283 : decode cMo_init 283 = .ok (.aload_n 0, 1) := by decide +kernel
theorem dMo_init_284 : decode cMo_init 284 = .ok (.sipush 17000, 3) := by decide +kernel
theorem dMo_init_287 : decode cMo_init 287 = .ok (.newarray .int, 2) := by decide +kernel
theorem dMo_init_289 : decode cMo_init 289 = .ok (.putfield 140, 3) := by decide +kernel
theorem dMo_init_292 : decode cMo_init 292 = .ok (.aload_n 0, 1) := by decide +kernel
theorem dMo_init_293 : decode cMo_init 293 = .ok (.sipush 17000, 3) := by decide +kernel
theorem dMo_init_296 : decode cMo_init 296 = .ok (.newarray .int, 2) := by decide +kernel
theorem dMo_init_298 : decode cMo_init 298 = .ok (.putfield 143, 3) := by decide +kernel
theorem dMo_init_301 : decode cMo_init 301 = .ok (.aload_n 0, 1) := by decide +kernel
theorem dMo_init_302 : decode cMo_init 302 = .ok (.sipush 17000, 3) := by decide +kernel
theorem dMo_init_305 : decode cMo_init 305 = .ok (.newarray .int, 2) := by decide +kernel
theorem dMo_init_307 : decode cMo_init 307 = .ok (.putfield 146, 3) := by decide +kernel
theorem dMo_init_310 : decode cMo_init 310 = .ok (.aload_n 0, 1) := by decide +kernel
theorem dMo_init_311 : decode cMo_init 311 = .ok (.bipush 16, 2) := by decide +kernel
theorem dMo_init_313 : decode cMo_init 313 = .ok (.newarray .int, 2) := by decide +kernel
theorem dMo_init_315 : decode cMo_init 315 = .ok (.putfield 149, 3) := by decide +kernel
theorem dMo_init_318 : decode cMo_init 318 = .ok (.aload_n 0, 1) := by decide +kernel
theorem dMo_init_319 : decode cMo_init 319 = .ok (.bipush 16, 2) := by decide +kernel
theorem dMo_init_321 : decode cMo_init 321 = .ok (.newarray .int, 2) := by decide +kernel
theorem dMo_init_323 : decode cMo_init 323 = .ok (.putfield 152, 3) := by decide +kernel
theorem dMo_init_326 : decode cMo_init 326 = .ok (.aload_n 0, 1) := by decide +kernel
theorem dMo_init_327 : decode cMo_init 327 = .ok (.bipush 16, 2) := by decide +kernel
theorem dMo_init_329 : decode cMo_init 329 = .ok (.newarray .boolean, 2) := by decide +kernel
theorem dMo_init_331 : decode cMo_init 331 = .ok (.putfield 155, 3) := by decide +kernel
theorem dMo_init_334 : decode cMo_init 334 = .ok (.aload_n 0, 1) := by decide +kernel
theorem dMo_init_335 : decode cMo_init 335 = .ok (.sipush 3200, 3) := by decide +kernel
theorem dMo_init_338 : decode cMo_init 338 = .ok (.newarray .int, 2) := by decide +kernel
theorem dMo_init_340 : decode cMo_init 340 = .ok (.putfield 159, 3) := by decide +kernel
theorem dMo_init_343 : decode cMo_init 343 = .ok (.aload_n 0, 1) := by decide +kernel
theorem dMo_init_344 : decode cMo_init 344 = .ok (.sipush 2000, 3) := by decide +kernel
theorem dMo_init_347 : decode cMo_init 347 = .ok (.newarray .int, 2) := by decide +kernel
theorem dMo_init_349 : decode cMo_init 349 = .ok (.putfield 162, 3) := by decide +kernel
theorem dMo_init_352 : decode cMo_init 352 = .ok (.aload_n 0, 1) := by decide +kernel
theorem dMo_init_353 : decode cMo_init 353 = .ok (.iconst 0, 1) := by decide +kernel
theorem dMo_init_354 : decode cMo_init 354 = .ok (.putfield 165, 3) := by decide +kernel
theorem dMo_init_357 : decode cMo_init 357 = .ok (.aload_n 0, 1) := by decide +kernel
theorem dMo_init_358 : decode cMo_init 358 = .ok (.iconst 0, 1) := by decide +kernel
theorem dMo_init_359 : decode cMo_init 359 = .ok (.putfield 168, 3) := by decide +kernel
theorem dMo_init_362 : decode cMo_init 362 = .ok (.aload_n 0, 1) := by decide +kernel
theorem dMo_init_363 : decode cMo_init 363 = .ok (.iconst 0, 1) := by decide +kernel
theorem dMo_init_364 : decode cMo_init 364 = .ok (.putfield 171, 3) := by decide +kernel
theorem dMo_init_367 : decode cMo_init 367 = .ok (.aload_n 0, 1) := by decide +kernel
theorem dMo_init_368 : decode cMo_init 368 = .ok (.iconst 0, 1) := by decide +kernel
theorem dMo_init_369 : decode cMo_init 369 = .ok (.putfield 174, 3) := by decide +kernel
theorem dMo_init_372 : decode cMo_init 372 = .ok (.aload_n 0, 1) := by decide +kernel
theorem dMo_init_373 : decode cMo_init 373 = .ok (.bipush 30, 2) := by decide +kernel
theorem dMo_init_375 : decode cMo_init 375 = .ok (.newarray .boolean, 2) := by decide +kernel
theorem dMo_init_377 : decode cMo_init 377 = .ok (.putfield 177, 3) := by decide +kernel
theorem dMo_init_380 : decode cMo_init 380 = .ok (.aload_n 0, 1) := by decide +kernel
theorem dMo_init_381 : decode cMo_init 381 = .ok (.bipush 16, 2) := by decide +kernel
theorem dMo_init_383 : decode cMo_init 383 = .ok (.newarray .int, 2) := by decide +kernel
theorem dMo_init_385 : decode cMo_init 385 = .ok (.putfield 180, 3) := by decide +kernel
theorem dMo_init_388 : decode cMo_init 388 = .ok (.return_, 1) := by decide +kernel
theorem dRp_read_0 : decode cRp_read 0 = .ok (.aload_n 0, 1) := by decide +kernel
theorem dRp_read_1 : decode cRp_read 1 = .ok (.getfield 71, 3) := by decide +kernel
theorem dRp_read_4 : decode cRp_read 4 = .ok (.iconst 0, 1) := by decide +kernel
theorem dRp_read_5 : decode cRp_read 5 = .ok (.invokestatic 99, 3) := by decide +kernel
theorem dRp_read_8 : decode cRp_read 8 = .ok (.aload_n 0, 1) := by decide +kernel
theorem dRp_read_9 : decode cRp_read 9 = .ok (.iconst 0, 1) := by decide +kernel
theorem dRp_read_10 : decode cRp_read 10 = .ok (.putfield 105, 3) := by decide +kernel
theorem dRp_read_13 : decode cRp_read 13 = .ok (.aload_n 0, 1) := by decide +kernel
theorem dRp_read_14 : decode cRp_read 14 = .ok (.getfield 26, 3) := by decide +kernel
theorem dRp_read_17 : decode cRp_read 17 = .ok (.aload_n 0, 1) := by decide +kernel
theorem dRp_read_18 : decode cRp_read 18 = .ok (.getfield 78, 3) := by decide +kernel
theorem dRp_read_21 : decode cRp_read 21 = .ok (.invokevirtual 108, 3) := by decide +kernel
theorem dRp_read_24 : decode cRp_read 24 = .ok (.aload_n 0, 1) := by decide +kernel
theorem dRp_read_25 : decode cRp_read 25 = .ok (.aload_n 0, 1) := by decide +kernel
theorem dRp_read_26 : decode cRp_read 26 = .ok (.getfield 26, 3) := by decide +kernel
theorem dRp_read_29 : decode cRp_read 29 = .ok (.getfield 111, 3) := by decide +kernel
theorem dRp_read_32 : decode cRp_read 32 = .ok (.getfield 115, 3) := by decide +kernel
theorem dRp_read_35 : decode cRp_read 35 = .ok (.putfield 120, 3) := by decide +kernel
theorem dRp_read_38 : decode cRp_read 38 = .ok (.aload_n 0, 1) := by decide +kernel
theorem dRp_read_39 : decode cRp_read 39 = .ok (.aload_n 0, 1) := by decide +kernel
theorem dRp_read_40 : decode cRp_read 40 = .ok (.getfield 26, 3) := by decide +kernel
theorem dRp_read_43 : decode cRp_read 43 = .ok (.getfield 111, 3) := by decide +kernel
theorem dRp_read_46 : decode cRp_read 46 = .ok (.getfield 121, 3) := by decide +kernel
theorem dRp_read_49 : decode cRp_read 49 = .ok (.putfield 124, 3) := by decide +kernel
theorem dRp_read_52 : decode cRp_read 52 = .ok (.aload_n 0, 1) := by decide +kernel
theorem dRp_read_53 : decode cRp_read 53 = .ok (.iconst 0, 1) := by decide +kernel
theorem dRp_read_54 : decode cRp_read 54 = .ok (.putfield 78, 3) := by decide +kernel
theorem dRp_read_57 : decode cRp_read 57 = .ok (.aload_n 0, 1) := by decide +kernel
theorem dRp_read_58 : decode cRp_read 58 = .ok (.aload_n 0, 1) := by decide +kernel
theorem dRp_read_59 : decode cRp_read 59 = .ok (.getfield 120, 3) := by decide +kernel
theorem dRp_read_62 : decode cRp_read 62 = .ok (.ifCond .ne 7, 3) := by decide +kernel
theorem dRp_read_65 : decode cRp_read 65 = .ok (.iconst 1, 1) := by decide +kernel
theorem dRp_read_66 : decode cRp_read 66 = .ok (.goto 4, 3) := by decide +kernel
theorem dRp_read_69 : decode cRp_read 69 = .ok (.iconst 0, 1) := by decide +kernel
theorem dRp_read_70 : decode cRp_read 70 = .ok (.putfield 125, 3) := by decide +kernel
theorem dRp_read_73 : decode cRp_read 73 = .ok (.aload_n 0, 1) := by decide +kernel
theorem dRp_read_74 : decode cRp_read 74 = .ok (.getfield 125, 3) := by decide +kernel
theorem dRp_read_77 : decode cRp_read 77 = .ok (.ifCond .ne 10, 3) := by decide +kernel
theorem dRp_read_80 : decode cRp_read 80 = .ok (.aload_n 0, 1) := by decide +kernel
theorem dRp_read_81 : decode cRp_read 81 = .ok (.getfield 17, 3) := by decide +kernel
theorem dRp_read_84 : decode cRp_read 84 = .ok (.invokevirtual 129, 3) := by decide +kernel
theorem dRp_read_87 : decode cRp_read 87 = .ok (.aload_n 0, 1) := by decide +kernel
theorem dRp_read_88 : decode cRp_read 88 = .ok (.getfield 42, 3) := by decide +kernel
theorem dRp_read_91 : decode cRp_read 91 = .ok (.invokevirtual 132, 3) := by decide +kernel
theorem dRp_read_94 : decode cRp_read 94 = .ok (.aload_n 0, 1) := by decide +kernel
theorem dRp_read_95 : decode cRp_read 95 = .ok (.getfield 42, 3) := by decide +kernel
theorem dRp_read_98 : decode cRp_read 98 = .ok (.aload_n 0, 1) := by decide +kernel
theorem dRp_read_99 : decode cRp_read 99 = .ok (.getfield 17, 3) := by decide +kernel
theorem dRp_read_102 : decode cRp_read 102 = .ok (.getfield 135, 3) := by decide +kernel
theorem dRp_read_105 : decode cRp_read 105 = .ok (.iconst 0, 1) := by decide +kernel
theorem dRp_read_106 : decode cRp_read 106 = .ok (.invokevirtual 138, 3) := by decide +kernel
theorem dRp_read_109 : decode cRp_read 109 = .ok (.aload_n 0, 1) := by decide +kernel
theorem dRp_read_110 : decode cRp_read 110 = .ok (.getfield 125, 3) := by decide +kernel
theorem dRp_read_113 : decode cRp_read 113 = .ok (.ifCond .eq 13, 3) := by decide +kernel
theorem dRp_read_116 : decode cRp_read 116 = .ok (.aload_n 0, 1) := by decide +kernel
theorem dRp_read_117 : decode cRp_read 117 = .ok (.getfield 17, 3) := by decide +kernel
theorem dRp_read_120 : decode cRp_read 120 = .ok (.getfield 142, 3) := by decide +kernel
theorem dRp_read_123 : decode cRp_read 123 = .ok (.goto 4, 3) := by decide +kernel
theorem dRp_read_126 : decode cRp_read 126 = .ok (.iconst (-1), 1) := by decide +kernel
theorem dRp_read_127 : decode cRp_read 127 = .ok (.ireturn, 1) := by decide +kernel
theorem dAr_fill_0 : decode cAr_fill 0 = .ok (.iconst 0, 1) := by decide +kernel
theorem dAr_fill_1 : decode cAr_fill 1 = .ok (.istore_n 2, 1) := by decide +kernel
theorem dAr_fill_2 : decode cAr_fill 2 = .ok (.aload_n 0, 1) := by decide +kernel
theorem dAr_fill_3 : decode cAr_fill 3 = .ok (.arraylength, 1) := by decide +kernel
theorem dAr_fill_4 : decode cAr_fill 4 = .ok (.istore_n 3, 1) := by decide +kernel
theorem dAr_fill_5 : decode cAr_fill 5 = .ok (.iload_n 2, 1) := by decide +kernel
theorem dAr_fill_6 : decode cAr_fill 6 = .ok (.iload_n 3, 1) := by decide +kernel
theorem dAr_fill_7 : decode cAr_fill 7 = .ok (.if_icmp .ge 13, 3) := by decide +kernel
theorem dAr_fill_10 : decode cAr_fill 10 = .ok (.aload_n 0, 1) := by decide +kernel
theorem dAr_fill_11 : decode cAr_fill 11 = .ok (.iload_n 2, 1) := by decide +kernel
theorem dAr_fill_12 : decode cAr_fill 12 = .ok (.iload_n 1, 1) := by decide +kernel
theorem dAr_fill_13 : decode cAr_fill 13 = .ok (.iastore, 1) := by decide +kernel
theorem dAr_fill_14 : decode cAr_fill 14 = .ok (.iinc 2 1, 3) := by decide +kernel
theorem dAr_fill_17 : decode cAr_fill 17 = .ok (.goto (-12), 3) := by decide +kernel
theorem dAr_fill_20 : decode cAr_fill 20 = .ok (.return_, 1) := by decide +kernel
theorem dPa_parse_0 : decode cPa_parse 0 = .ok (.aload_n 0, 1) := by decide +kernel
theorem dPa_parse_1 : decode cPa_parse 1 = .ok (.getfield 16, 3) := by decide +kernel
theorem dPa_parse_4 : decode cPa_parse 4 = .ok (.invokevirtual 38, 3) := by decide +kernel
theorem dPa_parse_7 : decode cPa_parse 7 = .ok (.aload_n 0, 1) := by decide +kernel
theorem dPa_parse_8 : decode cPa_parse 8 = .ok (.getfield 10, 3) := by decide +kernel
theorem dPa_parse_11 : decode cPa_parse 11 = .ok (.iconst 0, 1) := by decide +kernel
theorem dPa_parse_12 : decode cPa_parse 12 = .ok (.putfield 43, 3) := by decide +kernel
theorem dPa_parse_15 : decode cPa_parse 15 = .ok (.aload_n 0, 1) := by decide +kernel
theorem dPa_parse_16 : decode cPa_parse 16 = .ok (.getfield 34, 3) := by decide +kernel
theorem dPa_parse_19 : decode cPa_parse 19 = .ok (.invokevirtual 47, 3) := by decide +kernel
theorem dPa_parse_22 : decode cPa_parse 22 = .ok (.aload_n 0, 1) := by decide +kernel
theorem dPa_parse_23 : decode cPa_parse 23 = .ok (.iconst 0, 1) := by decide +kernel
theorem dPa_parse_24 : decode cPa_parse 24 = .ok (.putfield 50, 3) := by decide +kernel
theorem dPa_parse_27 : decode cPa_parse 27 = .ok (.aload_n 0, 1) := by decide +kernel
theorem dPa_parse_28 : decode cPa_parse 28 = .ok (.getfield 25, 3) := by decide +kernel
theorem dPa_parse_31 : decode cPa_parse 31 = .ok (.iload_n 1, 1) := by decide +kernel
theorem dPa_parse_32 : decode cPa_parse 32 = .ok (.invokevirtual 53, 3) := by decide +kernel
theorem dPa_parse_35 : decode cPa_parse 35 = .ok (.aload_n 0, 1) := by decide +kernel
theorem dPa_parse_36 : decode cPa_parse 36 = .ok (.getfield 25, 3) := by decide +kernel
theorem dPa_parse_39 : decode cPa_parse 39 = .ok (.iconst 5, 1) := by decide +kernel
theorem dPa_parse_40 : decode cPa_parse 40 = .ok (.invokevirtual 56, 3) := by decide +kernel
theorem dPa_parse_43 : decode cPa_parse 43 = .ok (.aload_n 0, 1) := by decide +kernel
theorem dPa_parse_44 : decode cPa_parse 44 = .ok (.getfield 16, 3) := by decide +kernel
theorem dPa_parse_47 : decode cPa_parse 47 = .ok (.aload_n 0, 1) := by decide +kernel
theorem dPa_parse_48 : decode cPa_parse 48 = .ok (.getfield 25, 3) := by decide +kernel
theorem dPa_parse_51 : decode cPa_parse 51 = .ok (.iconst 1, 1) := by decide +kernel
theorem dPa_parse_52 : decode cPa_parse 52 = .ok (.bipush 8, 2) := by decide +kernel
theorem dPa_parse_54 : decode cPa_parse 54 = .ok (.invokevirtual 61, 3) := by decide +kernel
theorem dPa_parse_57 : decode cPa_parse 57 = .ok (.putfield 65, 3) := by decide +kernel
theorem dPa_parse_60 : decode cPa_parse 60 = .ok (.aload_n 0, 1) := by decide +kernel
theorem dPa_parse_61 : decode cPa_parse 61 = .ok (.getfield 25, 3) := by decide +kernel
theorem dPa_parse_64 : decode cPa_parse 64 = .ok (.bipush 16, 2) := by decide +kernel
theorem dPa_parse_66 : decode cPa_parse 66 = .ok (.invokevirtual 56, 3) := by decide +kernel
theorem dPa_parse_69 : decode cPa_parse 69 = .ok (.aload_n 0, 1) := by decide +kernel
theorem dPa_parse_70 : decode cPa_parse 70 = .ok (.invokevirtual 68, 3) := by decide +kernel
theorem dPa_parse_73 : decode cPa_parse 73 = .ok (.aload_n 0, 1) := by decide +kernel
theorem dPa_parse_74 : decode cPa_parse 74 = .ok (.getfield 16, 3) := by decide +kernel
theorem dPa_parse_77 : decode cPa_parse 77 = .ok (.aload_n 0, 1) := by decide +kernel
theorem dPa_parse_78 : decode cPa_parse 78 = .ok (.iconst 0, 1) := by decide +kernel
theorem dPa_parse_79 : decode cPa_parse 79 = .ok (.invokevirtual 71, 3) := by decide +kernel
theorem dPa_parse_82 : decode cPa_parse 82 = .ok (.putfield 75, 3) := by decide +kernel
theorem dPa_parse_85 : decode cPa_parse 85 = .ok (.aload_n 0, 1) := by decide +kernel
theorem dPa_parse_86 : decode cPa_parse 86 = .ok (.getfield 25, 3) := by decide +kernel
theorem dPa_parse_89 : decode cPa_parse 89 = .ok (.getfield 78, 3) := by decide +kernel
theorem dPa_parse_92 : decode cPa_parse 92 = .ok (.iconst 1, 1) := by decide +kernel
theorem dPa_parse_93 : decode cPa_parse 93 = .ok (.if_icmp .eq 10, 3) := by decide +kernel
theorem dPa_parse_96 : decode cPa_parse 96 = .ok (.aload_n 0, 1) := by decide +kernel
theorem dPa_parse_97 : decode cPa_parse 97 = .ok (.getfield 25, 3) := by decide +kernel
theorem dPa_parse_100 : decode cPa_parse 100 = .ok (.invokevirtual 81, 3) := by decide +kernel
theorem dPa_parse_103 : decode cPa_parse 103 = .ok (.aload_n 0, 1) := by decide +kernel
theorem dPa_parse_104 : decode cPa_parse 104 = .ok (.getfield 16, 3) := by decide +kernel
theorem dPa_parse_107 : decode cPa_parse 107 = .ok (.aload_n 0, 1) := by decide +kernel
theorem dPa_parse_108 : decode cPa_parse 108 = .ok (.getfield 34, 3) := by decide +kernel
theorem dPa_parse_111 : decode cPa_parse 111 = .ok (.getfield 84, 3) := by decide +kernel
theorem dPa_parse_114 : decode cPa_parse 114 = .ok (.putfield 87, 3) := by decide +kernel
theorem dPa_parse_117 : decode cPa_parse 117 = .ok (.aload_n 0, 1) := by decide +kernel
theorem dPa_parse_118 : decode cPa_parse 118 = .ok (.getfield 34, 3) := by decide +kernel
theorem dPa_parse_121 : decode cPa_parse 121 = .ok (.getfield 90, 3) := by decide +kernel
theorem dPa_parse_124 : decode cPa_parse 124 = .ok (.sipush 200, 3) := by decide +kernel
theorem dPa_parse_127 : decode cPa_parse 127 = .ok (.if_icmp .gt 25, 3) := by decide +kernel
theorem dPa_parse_130 : decode cPa_parse 130 = .ok (.aload_n 0, 1) := by decide +kernel
theorem dPa_parse_131 : decode cPa_parse 131 = .ok (.getfield 16, 3) := by decide +kernel
theorem dPa_parse_134 : decode cPa_parse 134 = .ok (.getfield 87, 3) := by decide +kernel
theorem dPa_parse_137 : decode cPa_parse 137 = .ok (.sipush 30000, 3) := by decide +kernel
theorem dPa_parse_140 : decode cPa_parse 140 = .ok (.if_icmp .gt 12, 3) := by decide +kernel
theorem dPa_parse_143 : decode cPa_parse 143 = .ok (.aload_n 0, 1) := by decide +kernel
theorem dPa_parse_144 : decode cPa_parse 144 = .ok (.getfield 50, 3) := by decide +kernel
theorem dPa_parse_147 : decode cPa_parse 147 = .ok (.bipush 12, 2) := by decide +kernel
theorem dPa_parse_149 : decode cPa_parse 149 = .ok (.if_icmp .le 12, 3) := by decide +kernel
theorem dPa_parse_152 : decode cPa_parse 152 = .ok (.aload_n 0, 1) := by decide +kernel
theorem dPa_parse_153 : decode cPa_parse 153 = .ok (.getfield 25, 3) := by decide +kernel
theorem dPa_parse_156 : decode cPa_parse 156 = .ok (.iconst 4, 1) := by decide +kernel
theorem dPa_parse_157 : decode cPa_parse 157 = .ok (.iload_n 1, 1) := by decide +kernel
theorem dPa_parse_158 : decode cPa_parse 158 = .ok (.invokevirtual 95, 3) := by decide +kernel
theorem dPa_parse_161 : decode cPa_parse 161 = .ok (.return_, 1) := by decide +kernel
theorem dPg_clear_0 : decode cPg_clear 0 = .ok (.aload_n 0, 1) := by decide +kernel
theorem dPg_clear_1 : decode cPg_clear 1 = .ok (.iconst 0, 1) := by decide +kernel
theorem dPg_clear_2 : decode cPg_clear 2 = .ok (.putfield 42, 3) := by decide +kernel
theorem dPg_clear_5 : decode cPg_clear 5 = .ok (.aload_n 0, 1) := by decide +kernel
theorem dPg_clear_6 : decode cPg_clear 6 = .ok (.iconst 0, 1) := by decide +kernel
theorem dPg_clear_7 : decode cPg_clear 7 = .ok (.putfield 45, 3) := by decide +kernel
theorem dPg_clear_10 : decode cPg_clear 10 = .ok (.aload_n 0, 1) := by decide +kernel
theorem dPg_clear_11 : decode cPg_clear 11 = .ok (.iconst 0, 1) := by decide +kernel
theorem dPg_clear_12 : decode cPg_clear 12 = .ok (.putfield 48, 3) := by decide +kernel
theorem dPg_clear_15 : decode cPg_clear 15 = .ok (.aload_n 0, 1) := by decide +kernel
theorem dPg_clear_16 : decode cPg_clear 16 = .ok (.iconst 0, 1) := by decide +kernel
theorem dPg_clear_17 : decode cPg_clear 17 = .ok (.putfield 51, 3) := by decide +kernel
theorem dPg_clear_20 : decode cPg_clear 20 = .ok (.aload_n 0, 1) := by decide +kernel
theorem dPg_clear_21 : decode cPg_clear 21 = .ok (.iconst 0, 1) := by decide +kernel
theorem dPg_clear_22 : decode cPg_clear 22 = .ok (.putfield 54, 3) := by decide +kernel
theorem dPg_clear_25 : decode cPg_clear 25 = .ok (.aload_n 0, 1) := by decide +kernel
theorem dPg_clear_26 : decode cPg_clear 26 = .ok (.iconst 0, 1) := by decide +kernel
theorem dPg_clear_27 : decode cPg_clear 27 = .ok (.putfield 57, 3) := by decide +kernel
theorem dPg_clear_30 : decode cPg_clear 30 = .ok (.aload_n 0, 1) := by decide +kernel
theorem dPg_clear_31 : decode cPg_clear 31 = .ok (.iconst 0, 1) := by decide +kernel
theorem dPg_clear_32 : decode cPg_clear 32 = .ok (.putfield 60, 3) := by decide +kernel
theorem dPg_clear_35 : decode cPg_clear 35 = .ok (.aload_n 0, 1) := by decide +kernel
theorem dPg_clear_36 : decode cPg_clear 36 = .ok (.iconst 0, 1) := by decide +kernel
theorem dPg_clear_37 : decode cPg_clear 37 = .ok (.putfield 63, 3) := by decide +kernel
theorem dPg_clear_40 : decode cPg_clear 40 = .ok (.aload_n 0, 1) := by decide +kernel
theorem dPg_clear_41 : decode cPg_clear 41 = .ok (.iconst (-1), 1) := by decide +kernel
theorem dPg_clear_42 : decode cPg_clear 42 = .ok (.putfield 38, 3) := by decide +kernel
theorem dPg_clear_45 : decode cPg_clear 45 = .ok (.return_, 1) := by decide +kernel
theorem dEx_begin_0 : decode cEx_begin 0 = .ok (.aload_n 0, 1) := by decide +kernel
theorem dEx_begin_1 : decode cEx_begin 1 = .ok (.iconst 0, 1) := by decide +kernel
theorem dEx_begin_2 : decode cEx_begin 2 = .ok (.putfield 30, 3) := by decide +kernel
theorem dEx_begin_5 : decode cEx_begin 5 = .ok (.aload_n 0, 1) := by decide +kernel
theorem dEx_begin_6 : decode cEx_begin 6 = .ok (.iconst 0, 1) := by decide +kernel
theorem dEx_begin_7 : decode cEx_begin 7 = .ok (.putfield 34, 3) := by decide +kernel
theorem dEx_begin_10 : decode cEx_begin 10 = .ok (.aload_n 0, 1) := by decide +kernel
theorem dEx_begin_11 : decode cEx_begin 11 = .ok (.iconst 0, 1) := by decide +kernel
theorem dEx_begin_12 : decode cEx_begin 12 = .ok (.putfield 38, 3) := by decide +kernel
theorem dEx_begin_15 : decode cEx_begin 15 = .ok (.aload_n 0, 1) := by decide +kernel
theorem dEx_begin_16 : decode cEx_begin 16 = .ok (.iconst 0, 1) := by decide +kernel
theorem dEx_begin_17 : decode cEx_begin 17 = .ok (.putfield 41, 3) := by decide +kernel
theorem dEx_begin_20 : decode cEx_begin 20 = .ok (.return_, 1) := by decide +kernel
theorem dTk_begin_0 : decode cTk_begin 0 = .ok (.aload_n 0, 1) := by decide +kernel
theorem dTk_begin_1 : decode cTk_begin 1 = .ok (.iload_n 1, 1) := by decide +kernel
theorem dTk_begin_2 : decode cTk_begin 2 = .ok (.aload_n 0, 1) := by decide +kernel
theorem dTk_begin_3 : decode cTk_begin 3 = .ok (.getfield 19, 3) := by decide +kernel
theorem dTk_begin_6 : decode cTk_begin 6 = .ok (.arraylength, 1) := by decide +kernel
theorem dTk_begin_7 : decode cTk_begin 7 = .ok (.invokestatic 23, 3) := by decide +kernel
theorem dTk_begin_10 : decode cTk_begin 10 = .ok (.putfield 29, 3) := by decide +kernel
theorem dTk_begin_13 : decode cTk_begin 13 = .ok (.aload_n 0, 1) := by decide +kernel
theorem dTk_begin_14 : decode cTk_begin 14 = .ok (.iconst 0, 1) := by decide +kernel
theorem dTk_begin_15 : decode cTk_begin 15 = .ok (.putfield 33, 3) := by decide +kernel
theorem dTk_begin_18 : decode cTk_begin 18 = .ok (.aload_n 0, 1) := by decide +kernel
theorem dTk_begin_19 : decode cTk_begin 19 = .ok (.iconst 0, 1) := by decide +kernel
theorem dTk_begin_20 : decode cTk_begin 20 = .ok (.putfield 36, 3) := by decide +kernel
theorem dTk_begin_23 : decode cTk_begin 23 = .ok (.aload_n 0, 1) := by decide +kernel
theorem dTk_begin_24 : decode cTk_begin 24 = .ok (.iconst 0, 1) := by decide +kernel
theorem dTk_begin_25 : decode cTk_begin 25 = .ok (.putfield 39, 3) := by decide +kernel
theorem dTk_begin_28 : decode cTk_begin 28 = .ok (.aload_n 0, 1) := by decide +kernel
theorem dTk_begin_29 : decode cTk_begin 29 = .ok (.iconst 0, 1) := by decide +kernel
theorem dTk_begin_30 : decode cTk_begin 30 = .ok (.invokevirtual 42, 3) := by decide +kernel
theorem dTk_begin_33 : decode cTk_begin 33 = .ok (.istore_n 2, 1) := by decide +kernel
theorem dTk_begin_34 : decode cTk_begin 34 = .ok (.iload_n 2, 1) := by decide +kernel
theorem dTk_begin_35 : decode cTk_begin 35 = .ok (.aload_n 0, 1) := by decide +kernel
theorem dTk_begin_36 : decode cTk_begin 36 = .ok (.getfield 29, 3) := by decide +kernel
theorem dTk_begin_39 : decode cTk_begin 39 = .ok (.if_icmp .ge 26, 3) := by decide +kernel
theorem dTk_begin_42 : decode cTk_begin 42 = .ok (.aload_n 0, 1) := by decide +kernel
theorem dTk_begin_43 : decode cTk_begin 43 = .ok (.getfield 33, 3) := by decide +kernel
theorem dTk_begin_46 : decode cTk_begin 46 = .ok (.sipush 8000, 3) := by decide +kernel
theorem dTk_begin_49 : decode cTk_begin 49 = .ok (.if_icmp .gt 16, 3) := by decide +kernel
theorem dTk_begin_52 : decode cTk_begin 52 = .ok (.aload_n 0, 1) := by decide +kernel
theorem dTk_begin_53 : decode cTk_begin 53 = .ok (.aload_n 0, 1) := by decide +kernel
theorem dTk_begin_54 : decode cTk_begin 54 = .ok (.iload_n 2, 1) := by decide +kernel
theorem dTk_begin_55 : decode cTk_begin 55 = .ok (.invokevirtual 46, 3) := by decide +kernel
theorem dTk_begin_58 : decode cTk_begin 58 = .ok (.invokevirtual 42, 3) := by decide +kernel
theorem dTk_begin_61 : decode cTk_begin 61 = .ok (.istore_n 2, 1) := by decide +kernel
theorem dTk_begin_62 : decode cTk_begin 62 = .ok (.goto (-28), 3) := by decide +kernel
theorem dTk_begin_65 : decode cTk_begin 65 = .ok (.aload_n 0, 1) := by decide +kernel
theorem dTk_begin_66 : decode cTk_begin 66 = .ok (.getfield 33, 3) := by decide +kernel
theorem dTk_begin_69 : decode cTk_begin 69 = .ok (.sipush 8000, 3) := by decide +kernel
theorem dTk_begin_72 : decode cTk_begin 72 = .ok (.if_icmp .le 13, 3) := by decide +kernel
theorem dTk_begin_75 : decode cTk_begin 75 = .ok (.aload_n 0, 1) := by decide +kernel
theorem dTk_begin_76 : decode cTk_begin 76 = .ok (.getfield 9, 3) := by decide +kernel
theorem dTk_begin_79 : decode cTk_begin 79 = .ok (.sipush 8000, 3) := by decide +kernel
theorem dTk_begin_82 : decode cTk_begin 82 = .ok (.bipush 47, 2) := by decide +kernel
theorem dTk_begin_84 : decode cTk_begin 84 = .ok (.iastore, 1) := by decide +kernel
theorem dTk_begin_85 : decode cTk_begin 85 = .ok (.aload_n 0, 1) := by decide +kernel
theorem dTk_begin_86 : decode cTk_begin 86 = .ok (.getfield 9, 3) := by decide +kernel
theorem dTk_begin_89 : decode cTk_begin 89 = .ok (.aload_n 0, 1) := by decide +kernel
theorem dTk_begin_90 : decode cTk_begin 90 = .ok (.getfield 33, 3) := by decide +kernel
theorem dTk_begin_93 : decode cTk_begin 93 = .ok (.iconst 1, 1) := by decide +kernel
theorem dTk_begin_94 : decode cTk_begin 94 = .ok (.iastore, 1) := by decide +kernel
theorem dTk_begin_95 : decode cTk_begin 95 = .ok (.aload_n 0, 1) := by decide +kernel
theorem dTk_begin_96 : decode cTk_begin 96 = .ok (.getfield 13, 3) := by decide +kernel
theorem dTk_begin_99 : decode cTk_begin 99 = .ok (.aload_n 0, 1) := by decide +kernel
theorem dTk_begin_100 : decode cTk_begin 100 = .ok (.getfield 33, 3) := by decide +kernel
theorem dTk_begin_103 : decode cTk_begin 103 = .ok (.aload_n 0, 1) := by decide +kernel
theorem dTk_begin_104 : decode cTk_begin 104 = .ok (.getfield 29, 3) := by decide +kernel
theorem dTk_begin_107 : decode cTk_begin 107 = .ok (.iastore, 1) := by decide +kernel
theorem dTk_begin_108 : decode cTk_begin 108 = .ok (.aload_n 0, 1) := by decide +kernel
theorem dTk_begin_109 : decode cTk_begin 109 = .ok (.iconst (-1), 1) := by decide +kernel
theorem dTk_begin_110 : decode cTk_begin 110 = .ok (.putfield 49, 3) := by decide +kernel
theorem dTk_begin_113 : decode cTk_begin 113 = .ok (.aload_n 0, 1) := by decide +kernel
theorem dTk_begin_114 : decode cTk_begin 114 = .ok (.invokevirtual 52, 3) := by decide +kernel
theorem dTk_begin_117 : decode cTk_begin 117 = .ok (.return_, 1) := by decide +kernel
theorem dTk_behindBlanks_0 : decode cTk_behindBlanks 0 = .ok (.iconst 0, 1) := by decide +kernel
theorem dTk_behindBlanks_1 : decode cTk_behindBlanks 1 = .ok (.istore_n 2, 1) := by decide +kernel
theorem dTk_behindBlanks_2 : decode cTk_behindBlanks 2 = .ok (.iload_n 1, 1) := by decide +kernel
theorem dTk_behindBlanks_3 : decode cTk_behindBlanks 3 = .ok (.istore_n 3, 1) := by decide +kernel
theorem dTk_behindBlanks_4 : decode cTk_behindBlanks 4 = .ok (.iload_n 3, 1) := by decide +kernel
theorem dTk_behindBlanks_5 : decode cTk_behindBlanks 5 = .ok (.aload_n 0, 1) := by decide +kernel
theorem dTk_behindBlanks_6 : decode cTk_behindBlanks 6 = .ok (.getfield 29, 3) := by decide +kernel
theorem dTk_behindBlanks_9 : decode cTk_behindBlanks 9 = .ok (.if_icmp .ge 79, 3) := by decide +kernel
theorem dTk_behindBlanks_12 : decode cTk_behindBlanks 12 = .ok (.aload_n 0, 1) := by decide +kernel
theorem dTk_behindBlanks_13 : decode cTk_behindBlanks 13 = .ok (.getfield 19, 3) := by decide +kernel
theorem dTk_behindBlanks_16 : decode cTk_behindBlanks 16 = .ok (.iload_n 3, 1) := by decide +kernel
theorem dTk_behindBlanks_17 : decode cTk_behindBlanks 17 = .ok (.baload, 1) := by decide +kernel
theorem dTk_behindBlanks_18 : decode cTk_behindBlanks 18 = .ok (.istore 4, 2) := by decide +kernel
theorem dTk_behindBlanks_20 : decode cTk_behindBlanks 20 = .ok (.iload_n 2, 1) := by decide +kernel
theorem dTk_behindBlanks_21 : decode cTk_behindBlanks 21 = .ok (.ifCond .eq 19, 3) := by decide +kernel
theorem dTk_behindBlanks_24 : decode cTk_behindBlanks 24 = .ok (.iload 4, 2) := by decide +kernel
theorem dTk_behindBlanks_26 : decode cTk_behindBlanks 26 = .ok (.bipush 10, 2) := by decide +kernel
theorem dTk_behindBlanks_28 : decode cTk_behindBlanks 28 = .ok (.if_icmp .eq 7, 3) := by decide +kernel
theorem dTk_behindBlanks_31 : decode cTk_behindBlanks 31 = .ok (.iconst 1, 1) := by decide +kernel
theorem dTk_behindBlanks_32 : decode cTk_behindBlanks 32 = .ok (.goto 4, 3) := by decide +kernel
theorem dTk_behindBlanks_35 : decode cTk_behindBlanks 35 = .ok (.iconst 0, 1) := by decide +kernel
theorem dTk_behindBlanks_36 : decode cTk_behindBlanks 36 = .ok (.istore_n 2, 1) := by decide +kernel
theorem dTk_behindBlanks_37 : decode cTk_behindBlanks 37 = .ok (.goto 45, 3) := by decide +kernel
theorem dTk_behindBlanks_40 : decode cTk_behindBlanks 40 = .ok (.iload 4, 2) := by decide +kernel
theorem dTk_behindBlanks_42 : decode cTk_behindBlanks 42 = .ok (.bipush 35, 2) := by decide +kernel
theorem dTk_behindBlanks_44 : decode cTk_behindBlanks 44 = .ok (.if_icmp .ne 8, 3) := by decide +kernel
theorem dTk_behindBlanks_47 : decode cTk_behindBlanks 47 = .ok (.iconst 1, 1) := by decide +kernel
theorem dTk_behindBlanks_48 : decode cTk_behindBlanks 48 = .ok (.istore_n 2, 1) := by decide +kernel
theorem dTk_behindBlanks_49 : decode cTk_behindBlanks 49 = .ok (.goto 33, 3) := by decide +kernel
theorem dTk_behindBlanks_52 : decode cTk_behindBlanks 52 = .ok (.iload 4, 2) := by decide +kernel
theorem dTk_behindBlanks_54 : decode cTk_behindBlanks 54 = .ok (.bipush 32, 2) := by decide +kernel
theorem dTk_behindBlanks_56 : decode cTk_behindBlanks 56 = .ok (.if_icmp .eq 26, 3) := by decide +kernel
theorem dTk_behindBlanks_59 : decode cTk_behindBlanks 59 = .ok (.iload 4, 2) := by decide +kernel
theorem dTk_behindBlanks_61 : decode cTk_behindBlanks 61 = .ok (.bipush 9, 2) := by decide +kernel
theorem dTk_behindBlanks_63 : decode cTk_behindBlanks 63 = .ok (.if_icmp .eq 19, 3) := by decide +kernel
theorem dTk_behindBlanks_66 : decode cTk_behindBlanks 66 = .ok (.iload 4, 2) := by decide +kernel
theorem dTk_behindBlanks_68 : decode cTk_behindBlanks 68 = .ok (.bipush 10, 2) := by decide +kernel
theorem dTk_behindBlanks_70 : decode cTk_behindBlanks 70 = .ok (.if_icmp .eq 12, 3) := by decide +kernel
theorem dTk_behindBlanks_73 : decode cTk_behindBlanks 73 = .ok (.iload 4, 2) := by decide +kernel
theorem dTk_behindBlanks_75 : decode cTk_behindBlanks 75 = .ok (.bipush 13, 2) := by decide +kernel
theorem dTk_behindBlanks_77 : decode cTk_behindBlanks 77 = .ok (.if_icmp .eq 5, 3) := by decide +kernel
theorem dTk_behindBlanks_80 : decode cTk_behindBlanks 80 = .ok (.iload_n 3, 1) := by decide +kernel
theorem dTk_behindBlanks_81 : decode cTk_behindBlanks 81 = .ok (.ireturn, 1) := by decide +kernel
theorem dTk_behindBlanks_82 : decode cTk_behindBlanks 82 = .ok (.iinc 3 1, 3) := by decide +kernel
theorem dTk_behindBlanks_85 : decode cTk_behindBlanks 85 = .ok (.goto (-81), 3) := by decide +kernel
theorem dTk_behindBlanks_88 : decode cTk_behindBlanks 88 = .ok (.aload_n 0, 1) := by decide +kernel
theorem dTk_behindBlanks_89 : decode cTk_behindBlanks 89 = .ok (.getfield 29, 3) := by decide +kernel
theorem dTk_behindBlanks_92 : decode cTk_behindBlanks 92 = .ok (.ireturn, 1) := by decide +kernel
theorem dTk_advance_0 : decode cTk_advance 0 = .ok (.aload_n 0, 1) := by decide +kernel
theorem dTk_advance_1 : decode cTk_advance 1 = .ok (.getfield 36, 3) := by decide +kernel
theorem dTk_advance_4 : decode cTk_advance 4 = .ok (.ifCond .ne 63, 3) := by decide +kernel
theorem dTk_advance_7 : decode cTk_advance 7 = .ok (.aload_n 0, 1) := by decide +kernel
theorem dTk_advance_8 : decode cTk_advance 8 = .ok (.getfield 49, 3) := by decide +kernel
theorem dTk_advance_11 : decode cTk_advance 11 = .ok (.aload_n 0, 1) := by decide +kernel
theorem dTk_advance_12 : decode cTk_advance 12 = .ok (.getfield 33, 3) := by decide +kernel
theorem dTk_advance_15 : decode cTk_advance 15 = .ok (.if_icmp .ge 52, 3) := by decide +kernel
theorem dTk_advance_18 : decode cTk_advance 18 = .ok (.aload_n 0, 1) := by decide +kernel
theorem dTk_advance_19 : decode cTk_advance 19 = .ok (.dup, 1) := by decide +kernel
theorem dTk_advance_20 : decode cTk_advance 20 = .ok (.getfield 49, 3) := by decide +kernel
theorem dTk_advance_23 : decode cTk_advance 23 = .ok (.iconst 1, 1) := by decide +kernel
theorem dTk_advance_24 : decode cTk_advance 24 = .ok (.iadd, 1) := by decide +kernel
theorem dTk_advance_25 : decode cTk_advance 25 = .ok (.putfield 49, 3) := by decide +kernel
theorem dTk_advance_28 : decode cTk_advance 28 = .ok (.aload_n 0, 1) := by decide +kernel
theorem dTk_advance_29 : decode cTk_advance 29 = .ok (.aload_n 0, 1) := by decide +kernel
theorem dTk_advance_30 : decode cTk_advance 30 = .ok (.getfield 9, 3) := by decide +kernel
theorem dTk_advance_33 : decode cTk_advance 33 = .ok (.aload_n 0, 1) := by decide +kernel
theorem dTk_advance_34 : decode cTk_advance 34 = .ok (.getfield 49, 3) := by decide +kernel
theorem dTk_advance_37 : decode cTk_advance 37 = .ok (.iaload, 1) := by decide +kernel
theorem dTk_advance_38 : decode cTk_advance 38 = .ok (.putfield 55, 3) := by decide +kernel
theorem dTk_advance_41 : decode cTk_advance 41 = .ok (.aload_n 0, 1) := by decide +kernel
theorem dTk_advance_42 : decode cTk_advance 42 = .ok (.aload_n 0, 1) := by decide +kernel
theorem dTk_advance_43 : decode cTk_advance 43 = .ok (.getfield 13, 3) := by decide +kernel
theorem dTk_advance_46 : decode cTk_advance 46 = .ok (.aload_n 0, 1) := by decide +kernel
theorem dTk_advance_47 : decode cTk_advance 47 = .ok (.getfield 49, 3) := by decide +kernel
theorem dTk_advance_50 : decode cTk_advance 50 = .ok (.iaload, 1) := by decide +kernel
theorem dTk_advance_51 : decode cTk_advance 51 = .ok (.putfield 58, 3) := by decide +kernel
theorem dTk_advance_54 : decode cTk_advance 54 = .ok (.aload_n 0, 1) := by decide +kernel
theorem dTk_advance_55 : decode cTk_advance 55 = .ok (.aload_n 0, 1) := by decide +kernel
theorem dTk_advance_56 : decode cTk_advance 56 = .ok (.getfield 16, 3) := by decide +kernel
theorem dTk_advance_59 : decode cTk_advance 59 = .ok (.aload_n 0, 1) := by decide +kernel
theorem dTk_advance_60 : decode cTk_advance 60 = .ok (.getfield 49, 3) := by decide +kernel
theorem dTk_advance_63 : decode cTk_advance 63 = .ok (.iaload, 1) := by decide +kernel
theorem dTk_advance_64 : decode cTk_advance 64 = .ok (.putfield 61, 3) := by decide +kernel
theorem dTk_advance_67 : decode cTk_advance 67 = .ok (.return_, 1) := by decide +kernel
theorem dTk_take_0 : decode cTk_take 0 = .ok (.aload_n 0, 1) := by decide +kernel
theorem dTk_take_1 : decode cTk_take 1 = .ok (.getfield 55, 3) := by decide +kernel
theorem dTk_take_4 : decode cTk_take 4 = .ok (.iload_n 1, 1) := by decide +kernel
theorem dTk_take_5 : decode cTk_take 5 = .ok (.if_icmp .ne 10, 3) := by decide +kernel
theorem dTk_take_8 : decode cTk_take 8 = .ok (.aload_n 0, 1) := by decide +kernel
theorem dTk_take_9 : decode cTk_take 9 = .ok (.invokevirtual 52, 3) := by decide +kernel
theorem dTk_take_12 : decode cTk_take 12 = .ok (.goto 15, 3) := by decide +kernel
theorem dTk_take_15 : decode cTk_take 15 = .ok (.aload_n 0, 1) := by decide +kernel
theorem dTk_take_16 : decode cTk_take 16 = .ok (.aload_n 0, 1) := by decide +kernel
theorem dTk_take_17 : decode cTk_take 17 = .ok (.invokevirtual 64, 3) := by decide +kernel
theorem dTk_take_20 : decode cTk_take 20 = .ok (.aload_n 0, 1) := by decide +kernel
theorem dTk_take_21 : decode cTk_take 21 = .ok (.getfield 58, 3) := by decide +kernel
theorem dTk_take_24 : decode cTk_take 24 = .ok (.invokevirtual 68, 3) := by decide +kernel
theorem dTk_take_27 : decode cTk_take 27 = .ok (.return_, 1) := by decide +kernel
theorem dTk_misfit_0 : decode cTk_misfit 0 = .ok (.aload_n 0, 1) := by decide +kernel
theorem dTk_misfit_1 : decode cTk_misfit 1 = .ok (.getfield 55, 3) := by decide +kernel
theorem dTk_misfit_4 : decode cTk_misfit 4 = .ok (.bipush 47, 2) := by decide +kernel
theorem dTk_misfit_6 : decode cTk_misfit 6 = .ok (.if_icmp .ne 7, 3) := by decide +kernel
theorem dTk_misfit_9 : decode cTk_misfit 9 = .ok (.iconst 4, 1) := by decide +kernel
theorem dTk_misfit_10 : decode cTk_misfit 10 = .ok (.goto 4, 3) := by decide +kernel
theorem dTk_misfit_13 : decode cTk_misfit 13 = .ok (.iconst 1, 1) := by decide +kernel
theorem dTk_misfit_14 : decode cTk_misfit 14 = .ok (.ireturn, 1) := by decide +kernel
theorem dTk_fail_0 : decode cTk_fail 0 = .ok (.aload_n 0, 1) := by decide +kernel
theorem dTk_fail_1 : decode cTk_fail 1 = .ok (.getfield 36, 3) := by decide +kernel
theorem dTk_fail_4 : decode cTk_fail 4 = .ok (.ifCond .ne 13, 3) := by decide +kernel
theorem dTk_fail_7 : decode cTk_fail 7 = .ok (.aload_n 0, 1) := by decide +kernel
theorem dTk_fail_8 : decode cTk_fail 8 = .ok (.iload_n 1, 1) := by decide +kernel
theorem dTk_fail_9 : decode cTk_fail 9 = .ok (.putfield 36, 3) := by decide +kernel
theorem dTk_fail_12 : decode cTk_fail 12 = .ok (.aload_n 0, 1) := by decide +kernel
theorem dTk_fail_13 : decode cTk_fail 13 = .ok (.iload_n 2, 1) := by decide +kernel
theorem dTk_fail_14 : decode cTk_fail 14 = .ok (.putfield 39, 3) := by decide +kernel
theorem dTk_fail_17 : decode cTk_fail 17 = .ok (.aload_n 0, 1) := by decide +kernel
theorem dTk_fail_18 : decode cTk_fail 18 = .ok (.iconst 0, 1) := by decide +kernel
theorem dTk_fail_19 : decode cTk_fail 19 = .ok (.putfield 55, 3) := by decide +kernel
theorem dTk_fail_22 : decode cTk_fail 22 = .ok (.return_, 1) := by decide +kernel
theorem dTk_takeNumber_0 : decode cTk_takeNumber 0 = .ok (.aload_n 0, 1) := by decide +kernel
theorem dTk_takeNumber_1 : decode cTk_takeNumber 1 = .ok (.getfield 61, 3) := by decide +kernel
theorem dTk_takeNumber_4 : decode cTk_takeNumber 4 = .ok (.istore_n 3, 1) := by decide +kernel
theorem dTk_takeNumber_5 : decode cTk_takeNumber 5 = .ok (.aload_n 0, 1) := by decide +kernel
theorem dTk_takeNumber_6 : decode cTk_takeNumber 6 = .ok (.getfield 55, 3) := by decide +kernel
theorem dTk_takeNumber_9 : decode cTk_takeNumber 9 = .ok (.iconst 4, 1) := by decide +kernel
theorem dTk_takeNumber_10 : decode cTk_takeNumber 10 = .ok (.if_icmp .eq 18, 3) := by decide +kernel
theorem dTk_takeNumber_13 : decode cTk_takeNumber 13 = .ok (.aload_n 0, 1) := by decide +kernel
theorem dTk_takeNumber_14 : decode cTk_takeNumber 14 = .ok (.aload_n 0, 1) := by decide +kernel
theorem dTk_takeNumber_15 : decode cTk_takeNumber 15 = .ok (.invokevirtual 64, 3) := by decide +kernel
theorem dTk_takeNumber_18 : decode cTk_takeNumber 18 = .ok (.aload_n 0, 1) := by decide +kernel
theorem dTk_takeNumber_19 : decode cTk_takeNumber 19 = .ok (.getfield 58, 3) := by decide +kernel
theorem dTk_takeNumber_22 : decode cTk_takeNumber 22 = .ok (.invokevirtual 68, 3) := by decide +kernel
theorem dTk_takeNumber_25 : decode cTk_takeNumber 25 = .ok (.goto 31, 3) := by decide +kernel
theorem dTk_takeNumber_28 : decode cTk_takeNumber 28 = .ok (.iload_n 3, 1) := by decide +kernel
theorem dTk_takeNumber_29 : decode cTk_takeNumber 29 = .ok (.iload_n 1, 1) := by decide +kernel
theorem dTk_takeNumber_30 : decode cTk_takeNumber 30 = .ok (.if_icmp .lt 8, 3) := by decide +kernel
theorem dTk_takeNumber_33 : decode cTk_takeNumber 33 = .ok (.iload_n 3, 1) := by decide +kernel
theorem dTk_takeNumber_34 : decode cTk_takeNumber 34 = .ok (.iload_n 2, 1) := by decide +kernel
theorem dTk_takeNumber_35 : decode cTk_takeNumber 35 = .ok (.if_icmp .le 15, 3) := by decide +kernel
theorem dTk_takeNumber_38 : decode cTk_takeNumber 38 = .ok (.aload_n 0, 1) := by decide +kernel
theorem dTk_takeNumber_39 : decode cTk_takeNumber 39 = .ok (.iconst 3, 1) := by decide +kernel
theorem dTk_takeNumber_40 : decode cTk_takeNumber 40 = .ok (.aload_n 0, 1) := by decide +kernel
theorem dTk_takeNumber_41 : decode cTk_takeNumber 41 = .ok (.getfield 58, 3) := by decide +kernel
theorem dTk_takeNumber_44 : decode cTk_takeNumber 44 = .ok (.invokevirtual 68, 3) := by decide +kernel
theorem dTk_takeNumber_47 : decode cTk_takeNumber 47 = .ok (.goto 9, 3) := by decide +kernel
theorem dTk_takeNumber_50 : decode cTk_takeNumber 50 = .ok (.aload_n 0, 1) := by decide +kernel
theorem dTk_takeNumber_51 : decode cTk_takeNumber 51 = .ok (.invokevirtual 52, 3) := by decide +kernel
theorem dTk_takeNumber_54 : decode cTk_takeNumber 54 = .ok (.iload_n 3, 1) := by decide +kernel
theorem dTk_takeNumber_55 : decode cTk_takeNumber 55 = .ok (.ireturn, 1) := by decide +kernel
theorem dTk_takeNumber_56 : decode cTk_takeNumber 56 = .ok (.iload_n 1, 1) := by decide +kernel
theorem dTk_takeNumber_57 : decode cTk_takeNumber 57 = .ok (.ireturn, 1) := by decide +kernel
theorem dPa_declarations_0 : decode cPa_declarations 0 = .ok (.iconst 0, 1) := by decide +kernel
theorem dPa_declarations_1 : decode cPa_declarations 1 = .ok (.istore_n 1, 1) := by decide +kernel
theorem dPa_declarations_2 : decode cPa_declarations 2 = .ok (.iload_n 1, 1) := by decide +kernel
theorem dPa_declarations_3 : decode cPa_declarations 3 = .ok (.sipush 8000, 3) := by decide +kernel
theorem dPa_declarations_6 : decode cPa_declarations 6 = .ok (.if_icmp .ge 48, 3) := by decide +kernel
theorem dPa_declarations_9 : decode cPa_declarations 9 = .ok (.aload_n 0, 1) := by decide +kernel
theorem dPa_declarations_10 : decode cPa_declarations 10 = .ok (.getfield 25, 3) := by decide +kernel
theorem dPa_declarations_13 : decode cPa_declarations 13 = .ok (.getfield 78, 3) := by decide +kernel
theorem dPa_declarations_16 : decode cPa_declarations 16 = .ok (.bipush 6, 2) := by decide +kernel
theorem dPa_declarations_18 : decode cPa_declarations 18 = .ok (.if_icmp .ne 10, 3) := by decide +kernel
theorem dPa_declarations_21 : decode cPa_declarations 21 = .ok (.aload_n 0, 1) := by decide +kernel
theorem dPa_declarations_22 : decode cPa_declarations 22 = .ok (.invokevirtual 99, 3) := by decide +kernel
theorem dPa_declarations_25 : decode cPa_declarations 25 = .ok (.goto 23, 3) := by decide +kernel
theorem dPa_declarations_28 : decode cPa_declarations 28 = .ok (.aload_n 0, 1) := by decide +kernel
theorem dPa_declarations_29 : decode cPa_declarations 29 = .ok (.getfield 25, 3) := by decide +kernel
theorem dPa_declarations_32 : decode cPa_declarations 32 = .ok (.getfield 78, 3) := by decide +kernel
theorem dPa_declarations_35 : decode cPa_declarations 35 = .ok (.bipush 7, 2) := by decide +kernel
theorem dPa_declarations_37 : decode cPa_declarations 37 = .ok (.if_icmp .ne 10, 3) := by decide +kernel
theorem dPa_declarations_40 : decode cPa_declarations 40 = .ok (.aload_n 0, 1) := by decide +kernel
theorem dPa_declarations_41 : decode cPa_declarations 41 = .ok (.invokevirtual 102, 3) := by decide +kernel
theorem dPa_declarations_44 : decode cPa_declarations 44 = .ok (.goto 4, 3) := by decide +kernel
theorem dPa_declarations_47 : decode cPa_declarations 47 = .ok (.return_, 1) := by decide +kernel
theorem dPa_declarations_48 : decode cPa_declarations 48 = .ok (.iinc 1 1, 3) := by decide +kernel
theorem dPa_declarations_51 : decode cPa_declarations 51 = .ok (.goto (-49), 3) := by decide +kernel
theorem dPa_declarations_54 : decode cPa_declarations 54 = .ok (.return_, 1) := by decide +kernel
theorem dPa_statements_0 : decode cPa_statements 0 = .ok (.aload_n 0, 1) := by decide +kernel
theorem dPa_statements_1 : decode cPa_statements 1 = .ok (.getfield 25, 3) := by decide +kernel
theorem dPa_statements_4 : decode cPa_statements 4 = .ok (.getfield 78, 3) := by decide +kernel
theorem dPa_statements_7 : decode cPa_statements 7 = .ok (.bipush 25, 2) := by decide +kernel
theorem dPa_statements_9 : decode cPa_statements 9 = .ok (.if_icmp .eq 14, 3) := by decide +kernel
theorem dPa_statements_12 : decode cPa_statements 12 = .ok (.aload_n 0, 1) := by decide +kernel
theorem dPa_statements_13 : decode cPa_statements 13 = .ok (.getfield 25, 3) := by decide +kernel
theorem dPa_statements_16 : decode cPa_statements 16 = .ok (.iload_n 1, 1) := by decide +kernel
theorem dPa_statements_17 : decode cPa_statements 17 = .ok (.invokevirtual 140, 3) := by decide +kernel
theorem dPa_statements_20 : decode cPa_statements 20 = .ok (.ifCond .eq 5, 3) := by decide +kernel
theorem dPa_statements_23 : decode cPa_statements 23 = .ok (.iconst (-1), 1) := by decide +kernel
theorem dPa_statements_24 : decode cPa_statements 24 = .ok (.ireturn, 1) := by decide +kernel
theorem dPa_statements_25 : decode cPa_statements 25 = .ok (.iconst (-1), 1) := by decide +kernel
theorem dPa_statements_26 : decode cPa_statements 26 = .ok (.istore_n 2, 1) := by decide +kernel
theorem dPa_statements_27 : decode cPa_statements 27 = .ok (.iconst (-1), 1) := by decide +kernel
theorem dPa_statements_28 : decode cPa_statements 28 = .ok (.istore_n 3, 1) := by decide +kernel
theorem dPa_statements_29 : decode cPa_statements 29 = .ok (.iconst 0, 1) := by decide +kernel
theorem dPa_statements_30 : decode cPa_statements 30 = .ok (.istore 4, 2) := by decide +kernel
theorem dPa_statements_32 : decode cPa_statements 32 = .ok (.iload 4, 2) := by decide +kernel
theorem dPa_statements_34 : decode cPa_statements 34 = .ok (.sipush 8000, 3) := by decide +kernel
theorem dPa_statements_37 : decode cPa_statements 37 = .ok (.if_icmp .ge 45, 3) := by decide +kernel
theorem dPa_statements_40 : decode cPa_statements 40 = .ok (.aload_n 0, 1) := by decide +kernel
theorem dPa_statements_41 : decode cPa_statements 41 = .ok (.invokevirtual 144, 3) := by decide +kernel
theorem dPa_statements_44 : decode cPa_statements 44 = .ok (.ifCond .eq 38, 3) := by decide +kernel
theorem dPa_statements_47 : decode cPa_statements 47 = .ok (.aload_n 0, 1) := by decide +kernel
theorem dPa_statements_48 : decode cPa_statements 48 = .ok (.iload_n 1, 1) := by decide +kernel
theorem dPa_statements_49 : decode cPa_statements 49 = .ok (.invokevirtual 148, 3) := by decide +kernel
theorem dPa_statements_52 : decode cPa_statements 52 = .ok (.istore 5, 2) := by decide +kernel
theorem dPa_statements_54 : decode cPa_statements 54 = .ok (.iload_n 2, 1) := by decide +kernel
theorem dPa_statements_55 : decode cPa_statements 55 = .ok (.ifCond .ge 6, 3) := by decide +kernel
theorem dPa_statements_58 : decode cPa_statements 58 = .ok (.iload 5, 2) := by decide +kernel
theorem dPa_statements_60 : decode cPa_statements 60 = .ok (.istore_n 2, 1) := by decide +kernel
theorem dPa_statements_61 : decode cPa_statements 61 = .ok (.aload_n 0, 1) := by decide +kernel
theorem dPa_statements_62 : decode cPa_statements 62 = .ok (.getfield 16, 3) := by decide +kernel
theorem dPa_statements_65 : decode cPa_statements 65 = .ok (.iload_n 3, 1) := by decide +kernel
theorem dPa_statements_66 : decode cPa_statements 66 = .ok (.bipush 9, 2) := by decide +kernel
theorem dPa_statements_68 : decode cPa_statements 68 = .ok (.iload 5, 2) := by decide +kernel
theorem dPa_statements_70 : decode cPa_statements 70 = .ok (.invokevirtual 151, 3) := by decide +kernel
theorem dPa_statements_73 : decode cPa_statements 73 = .ok (.iload 5, 2) := by decide +kernel
theorem dPa_statements_75 : decode cPa_statements 75 = .ok (.istore_n 3, 1) := by decide +kernel
theorem dPa_statements_76 : decode cPa_statements 76 = .ok (.iinc 4 1, 3) := by decide +kernel
theorem dPa_statements_79 : decode cPa_statements 79 = .ok (.goto (-47), 3) := by decide +kernel
theorem dPa_statements_82 : decode cPa_statements 82 = .ok (.iload_n 2, 1) := by decide +kernel
theorem dPa_statements_83 : decode cPa_statements 83 = .ok (.ireturn, 1) := by decide +kernel
theorem dTk_tooDeep_0 : decode cTk_tooDeep 0 = .ok (.iload_n 1, 1) := by decide +kernel
theorem dTk_tooDeep_1 : decode cTk_tooDeep 1 = .ok (.bipush 50, 2) := by decide +kernel
theorem dTk_tooDeep_3 : decode cTk_tooDeep 3 = .ok (.if_icmp .le 12, 3) := by decide +kernel
theorem dTk_tooDeep_6 : decode cTk_tooDeep 6 = .ok (.aload_n 0, 1) := by decide +kernel
theorem dTk_tooDeep_7 : decode cTk_tooDeep 7 = .ok (.iconst 4, 1) := by decide +kernel
theorem dTk_tooDeep_8 : decode cTk_tooDeep 8 = .ok (.aload_n 0, 1) := by decide +kernel
theorem dTk_tooDeep_9 : decode cTk_tooDeep 9 = .ok (.getfield 58, 3) := by decide +kernel
theorem dTk_tooDeep_12 : decode cTk_tooDeep 12 = .ok (.invokevirtual 68, 3) := by decide +kernel
theorem dTk_tooDeep_15 : decode cTk_tooDeep 15 = .ok (.iload_n 1, 1) := by decide +kernel
theorem dTk_tooDeep_16 : decode cTk_tooDeep 16 = .ok (.bipush 50, 2) := by decide +kernel
theorem dTk_tooDeep_18 : decode cTk_tooDeep 18 = .ok (.if_icmp .le 7, 3) := by decide +kernel
theorem dTk_tooDeep_21 : decode cTk_tooDeep 21 = .ok (.iconst 1, 1) := by decide +kernel
theorem dTk_tooDeep_22 : decode cTk_tooDeep 22 = .ok (.goto 4, 3) := by decide +kernel
theorem dTk_tooDeep_25 : decode cTk_tooDeep 25 = .ok (.iconst 0, 1) := by decide +kernel
theorem dTk_tooDeep_26 : decode cTk_tooDeep 26 = .ok (.ireturn, 1) := by decide +kernel
theorem dPa_goesOn_0 : decode cPa_goesOn 0 = .ok (.aload_n 0, 1) := by decide +kernel
theorem dPa_goesOn_1 : decode cPa_goesOn 1 = .ok (.getfield 25, 3) := by decide +kernel
theorem dPa_goesOn_4 : decode cPa_goesOn 4 = .ok (.getfield 78, 3) := by decide +kernel
theorem dPa_goesOn_7 : decode cPa_goesOn 7 = .ok (.bipush 25, 2) := by decide +kernel
theorem dPa_goesOn_9 : decode cPa_goesOn 9 = .ok (.if_icmp .eq 28, 3) := by decide +kernel
theorem dPa_goesOn_12 : decode cPa_goesOn 12 = .ok (.aload_n 0, 1) := by decide +kernel
theorem dPa_goesOn_13 : decode cPa_goesOn 13 = .ok (.getfield 25, 3) := by decide +kernel
theorem dPa_goesOn_16 : decode cPa_goesOn 16 = .ok (.getfield 78, 3) := by decide +kernel
theorem dPa_goesOn_19 : decode cPa_goesOn 19 = .ok (.iconst 1, 1) := by decide +kernel
theorem dPa_goesOn_20 : decode cPa_goesOn 20 = .ok (.if_icmp .eq 17, 3) := by decide +kernel
theorem dPa_goesOn_23 : decode cPa_goesOn 23 = .ok (.aload_n 0, 1) := by decide +kernel
theorem dPa_goesOn_24 : decode cPa_goesOn 24 = .ok (.getfield 25, 3) := by decide +kernel
theorem dPa_goesOn_27 : decode cPa_goesOn 27 = .ok (.getfield 78, 3) := by decide +kernel
theorem dPa_goesOn_30 : decode cPa_goesOn 30 = .ok (.ifCond .eq 7, 3) := by decide +kernel
theorem dPa_goesOn_33 : decode cPa_goesOn 33 = .ok (.iconst 1, 1) := by decide +kernel
theorem dPa_goesOn_34 : decode cPa_goesOn 34 = .ok (.goto 4, 3) := by decide +kernel
theorem dPa_goesOn_37 : decode cPa_goesOn 37 = .ok (.iconst 0, 1) := by decide +kernel
theorem dPa_goesOn_38 : decode cPa_goesOn 38 = .ok (.ireturn, 1) := by decide +kernel
theorem dTk_refuse_0 : decode cTk_refuse 0 = .ok (.aload_n 0, 1) := by decide +kernel
theorem dTk_refuse_1 : decode cTk_refuse 1 = .ok (.aload_n 0, 1) := by decide +kernel
theorem dTk_refuse_2 : decode cTk_refuse 2 = .ok (.invokevirtual 64, 3) := by decide +kernel
theorem dTk_refuse_5 : decode cTk_refuse 5 = .ok (.aload_n 0, 1) := by decide +kernel
theorem dTk_refuse_6 : decode cTk_refuse 6 = .ok (.getfield 58, 3) := by decide +kernel
theorem dTk_refuse_9 : decode cTk_refuse 9 = .ok (.invokevirtual 68, 3) := by decide +kernel
theorem dTk_refuse_12 : decode cTk_refuse 12 = .ok (.return_, 1) := by decide +kernel
theorem dUn_begin_0 : decode cUn_begin 0 = .ok (.aload_n 0, 1) := by decide +kernel
theorem dUn_begin_1 : decode cUn_begin 1 = .ok (.getfield 44, 3) := by decide +kernel
theorem dUn_begin_4 : decode cUn_begin 4 = .ok (.invokevirtual 55, 3) := by decide +kernel
theorem dUn_begin_7 : decode cUn_begin 7 = .ok (.aload_n 0, 1) := by decide +kernel
theorem dUn_begin_8 : decode cUn_begin 8 = .ok (.getfield 51, 3) := by decide +kernel
theorem dUn_begin_11 : decode cUn_begin 11 = .ok (.aload_n 0, 1) := by decide +kernel
theorem dUn_begin_12 : decode cUn_begin 12 = .ok (.getfield 40, 3) := by decide +kernel
theorem dUn_begin_15 : decode cUn_begin 15 = .ok (.getfield 60, 3) := by decide +kernel
theorem dUn_begin_18 : decode cUn_begin 18 = .ok (.invokevirtual 64, 3) := by decide +kernel
theorem dUn_begin_21 : decode cUn_begin 21 = .ok (.aload_n 0, 1) := by decide +kernel
theorem dUn_begin_22 : decode cUn_begin 22 = .ok (.getfield 25, 3) := by decide +kernel
theorem dUn_begin_25 : decode cUn_begin 25 = .ok (.iconst 0, 1) := by decide +kernel
theorem dUn_begin_26 : decode cUn_begin 26 = .ok (.aload_n 0, 1) := by decide +kernel
theorem dUn_begin_27 : decode cUn_begin 27 = .ok (.getfield 40, 3) := by decide +kernel
theorem dUn_begin_30 : decode cUn_begin 30 = .ok (.getfield 68, 3) := by decide +kernel
theorem dUn_begin_33 : decode cUn_begin 33 = .ok (.bipush 8, 2) := by decide +kernel
theorem dUn_begin_35 : decode cUn_begin 35 = .ok (.imul, 1) := by decide +kernel
theorem dUn_begin_36 : decode cUn_begin 36 = .ok (.iconst 0, 1) := by decide +kernel
theorem dUn_begin_37 : decode cUn_begin 37 = .ok (.invokestatic 71, 3) := by decide +kernel
theorem dUn_begin_40 : decode cUn_begin 40 = .ok (.aload_n 0, 1) := by decide +kernel
theorem dUn_begin_41 : decode cUn_begin 41 = .ok (.getfield 28, 3) := by decide +kernel
theorem dUn_begin_44 : decode cUn_begin 44 = .ok (.iconst 0, 1) := by decide +kernel
theorem dUn_begin_45 : decode cUn_begin 45 = .ok (.invokestatic 77, 3) := by decide +kernel
theorem dUn_begin_48 : decode cUn_begin 48 = .ok (.aload_n 0, 1) := by decide +kernel
theorem dUn_begin_49 : decode cUn_begin 49 = .ok (.getfield 31, 3) := by decide +kernel
theorem dUn_begin_52 : decode cUn_begin 52 = .ok (.iconst 0, 1) := by decide +kernel
theorem dUn_begin_53 : decode cUn_begin 53 = .ok (.invokestatic 77, 3) := by decide +kernel
theorem dUn_begin_56 : decode cUn_begin 56 = .ok (.aload_n 0, 1) := by decide +kernel
theorem dUn_begin_57 : decode cUn_begin 57 = .ok (.iconst 1, 1) := by decide +kernel
theorem dUn_begin_58 : decode cUn_begin 58 = .ok (.putfield 80, 3) := by decide +kernel
theorem dUn_begin_61 : decode cUn_begin 61 = .ok (.aload_n 0, 1) := by decide +kernel
theorem dUn_begin_62 : decode cUn_begin 62 = .ok (.iconst 0, 1) := by decide +kernel
theorem dUn_begin_63 : decode cUn_begin 63 = .ok (.putfield 83, 3) := by decide +kernel
theorem dUn_begin_66 : decode cUn_begin 66 = .ok (.aload_n 0, 1) := by decide +kernel
theorem dUn_begin_67 : decode cUn_begin 67 = .ok (.iconst 0, 1) := by decide +kernel
theorem dUn_begin_68 : decode cUn_begin 68 = .ok (.putfield 86, 3) := by decide +kernel
theorem dUn_begin_71 : decode cUn_begin 71 = .ok (.return_, 1) := by decide +kernel
theorem dGa_clear_0 : decode cGa_clear 0 = .ok (.aload_n 0, 1) := by decide +kernel
theorem dGa_clear_1 : decode cGa_clear 1 = .ok (.getfield 31, 3) := by decide +kernel
theorem dGa_clear_4 : decode cGa_clear 4 = .ok (.iconst 0, 1) := by decide +kernel
theorem dGa_clear_5 : decode cGa_clear 5 = .ok (.invokestatic 41, 3) := by decide +kernel
theorem dGa_clear_8 : decode cGa_clear 8 = .ok (.aload_n 0, 1) := by decide +kernel
theorem dGa_clear_9 : decode cGa_clear 9 = .ok (.iconst 1, 1) := by decide +kernel
theorem dGa_clear_10 : decode cGa_clear 10 = .ok (.putfield 37, 3) := by decide +kernel
theorem dGa_clear_13 : decode cGa_clear 13 = .ok (.return_, 1) := by decide +kernel
theorem dWo_begin_0 : decode cWo_begin 0 = .ok (.aload_n 0, 1) := by decide +kernel
theorem dWo_begin_1 : decode cWo_begin 1 = .ok (.iload_n 1, 1) := by decide +kernel
theorem dWo_begin_2 : decode cWo_begin 2 = .ok (.putfield 28, 3) := by decide +kernel
theorem dWo_begin_5 : decode cWo_begin 5 = .ok (.aload_n 0, 1) := by decide +kernel
theorem dWo_begin_6 : decode cWo_begin 6 = .ok (.iconst 0, 1) := by decide +kernel
theorem dWo_begin_7 : decode cWo_begin 7 = .ok (.putfield 32, 3) := by decide +kernel
theorem dWo_begin_10 : decode cWo_begin 10 = .ok (.return_, 1) := by decide +kernel
theorem dAr_fill2_0 : decode cAr_fill2 0 = .ok (.aload_n 0, 1) := by decide +kernel
theorem dAr_fill2_1 : decode cAr_fill2 1 = .ok (.arraylength, 1) := by decide +kernel
theorem dAr_fill2_2 : decode cAr_fill2 2 = .ok (.iload_n 1, 1) := by decide +kernel
theorem dAr_fill2_3 : decode cAr_fill2 3 = .ok (.iload_n 2, 1) := by decide +kernel
theorem dAr_fill2_4 : decode cAr_fill2 4 = .ok (.invokestatic 13, 3) := by decide +kernel
theorem dAr_fill2_7 : decode cAr_fill2 7 = .ok (.iload_n 1, 1) := by decide +kernel
theorem dAr_fill2_8 : decode cAr_fill2 8 = .ok (.istore 4, 2) := by decide +kernel
theorem dAr_fill2_10 : decode cAr_fill2 10 = .ok (.iload 4, 2) := by decide +kernel
theorem dAr_fill2_12 : decode cAr_fill2 12 = .ok (.iload_n 2, 1) := by decide +kernel
theorem dAr_fill2_13 : decode cAr_fill2 13 = .ok (.if_icmp .ge 14, 3) := by decide +kernel
theorem dAr_fill2_16 : decode cAr_fill2 16 = .ok (.aload_n 0, 1) := by decide +kernel
theorem dAr_fill2_17 : decode cAr_fill2 17 = .ok (.iload 4, 2) := by decide +kernel
theorem dAr_fill2_19 : decode cAr_fill2 19 = .ok (.iload_n 3, 1) := by decide +kernel
theorem dAr_fill2_20 : decode cAr_fill2 20 = .ok (.iastore, 1) := by decide +kernel
theorem dAr_fill2_21 : decode cAr_fill2 21 = .ok (.iinc 4 1, 3) := by decide +kernel
theorem dAr_fill2_24 : decode cAr_fill2 24 = .ok (.goto (-14), 3) := by decide +kernel
theorem dAr_fill2_27 : decode cAr_fill2 27 = .ok (.return_, 1) := by decide +kernel
theorem dAr_rangeCheck_0 : decode cAr_rangeCheck 0 = .ok (.iload_n 1, 1) := by decide +kernel
theorem dAr_rangeCheck_1 : decode cAr_rangeCheck 1 = .ok (.iload_n 2, 1) := by decide +kernel
theorem dAr_rangeCheck_2 : decode cAr_rangeCheck 2 = .ok (.if_icmp .le 44, 3) := by decide +kernel
theorem dAr_rangeCheck_5 : decode cAr_rangeCheck 5 = .ok (.new 43, 3) := by decide +kernel
theorem dAr_rangeCheck_8 : decode cAr_rangeCheck 8 = .ok (.dup, 1) := by decide +kernel
theorem dAr_rangeCheck_9 : decode cAr_rangeCheck 9 = .ok (.new 45, 3) := by decide +kernel
theorem dAr_rangeCheck_12 : decode cAr_rangeCheck 12 = .ok (.dup, 1) := by decide +kernel
theorem dAr_rangeCheck_13 : decode cAr_rangeCheck 13 = .ok (.invokespecial 47, 3) := by decide +kernel
theorem dAr_rangeCheck_16 : decode cAr_rangeCheck 16 = .ok (.ldc 48, 2) := by decide +kernel
theorem dAr_rangeCheck_18 : decode cAr_rangeCheck 18 = .ok (.invokevirtual 50, 3) := by decide +kernel
theorem dAr_rangeCheck_21 : decode cAr_rangeCheck 21 = .ok (.iload_n 1, 1) := by decide +kernel
theorem dAr_rangeCheck_22 : decode cAr_rangeCheck 22 = .ok (.invokevirtual 54, 3) := by decide +kernel
theorem dAr_rangeCheck_25 : decode cAr_rangeCheck 25 = .ok (.ldc 57, 2) := by decide +kernel
theorem dAr_rangeCheck_27 : decode cAr_rangeCheck 27 = .ok (.invokevirtual 50, 3) := by decide +kernel
theorem dAr_rangeCheck_30 : decode cAr_rangeCheck 30 = .ok (.iload_n 2, 1) := by decide +kernel
theorem dAr_rangeCheck_31 : decode cAr_rangeCheck 31 = .ok (.invokevirtual 54, 3) := by decide +kernel
theorem dAr_rangeCheck_34 : decode cAr_rangeCheck 34 = .ok (.ldc 59, 2) := by decide +kernel
theorem dAr_rangeCheck_36 : decode cAr_rangeCheck 36 = .ok (.invokevirtual 50, 3) := by decide +kernel
theorem dAr_rangeCheck_39 : decode cAr_rangeCheck 39 = .ok (.invokevirtual 61, 3) := by decide +kernel
theorem dAr_rangeCheck_42 : decode cAr_rangeCheck 42 = .ok (.invokespecial 65, 3) := by decide +kernel
theorem dAr_rangeCheck_45 : decode cAr_rangeCheck 45 = .ok (.athrow, 1) := by decide +kernel
theorem dAr_rangeCheck_46 : decode cAr_rangeCheck 46 = .ok (.iload_n 1, 1) := by decide +kernel
theorem dAr_rangeCheck_47 : decode cAr_rangeCheck 47 = .ok (.ifCond .ge 12, 3) := by decide +kernel
theorem dAr_rangeCheck_50 : decode cAr_rangeCheck 50 = .ok (.new 68, 3) := by decide +kernel
theorem dAr_rangeCheck_53 : decode cAr_rangeCheck 53 = .ok (.dup, 1) := by decide +kernel
theorem dAr_rangeCheck_54 : decode cAr_rangeCheck 54 = .ok (.iload_n 1, 1) := by decide +kernel
theorem dAr_rangeCheck_55 : decode cAr_rangeCheck 55 = .ok (.invokespecial 70, 3) := by decide +kernel
theorem dAr_rangeCheck_58 : decode cAr_rangeCheck 58 = .ok (.athrow, 1) := by decide +kernel
theorem dAr_rangeCheck_59 : decode cAr_rangeCheck 59 = .ok (.iload_n 2, 1) := by decide +kernel
theorem dAr_rangeCheck_60 : decode cAr_rangeCheck 60 = .ok (.iload_n 0, 1) := by decide +kernel
theorem dAr_rangeCheck_61 : decode cAr_rangeCheck 61 = .ok (.if_icmp .le 12, 3) := by decide +kernel
theorem dAr_rangeCheck_64 : decode cAr_rangeCheck 64 = .ok (.new 68, 3) := by decide +kernel
theorem dAr_rangeCheck_67 : decode cAr_rangeCheck 67 = .ok (.dup, 1) := by decide +kernel
theorem dAr_rangeCheck_68 : decode cAr_rangeCheck 68 = .ok (.iload_n 2, 1) := by decide +kernel
theorem dAr_rangeCheck_69 : decode cAr_rangeCheck 69 = .ok (.invokespecial 70, 3) := by decide +kernel
theorem dAr_rangeCheck_72 : decode cAr_rangeCheck 72 = .ok (.athrow, 1) := by decide +kernel
theorem dAr_rangeCheck_73 : decode cAr_rangeCheck 73 = .ok (.return_, 1) := by decide +kernel
theorem dUn_walk_0 : decode cUn_walk 0 = .ok (.iload_n 2, 1) := by decide +kernel
theorem dUn_walk_1 : decode cUn_walk 1 = .ok (.bipush 50, 2) := by decide +kernel
theorem dUn_walk_3 : decode cUn_walk 3 = .ok (.if_icmp .le 7, 3) := by decide +kernel
theorem dUn_walk_6 : decode cUn_walk 6 = .ok (.iconst (-1), 1) := by decide +kernel
theorem dUn_walk_7 : decode cUn_walk 7 = .ok (.goto 4, 3) := by decide +kernel
theorem dUn_walk_10 : decode cUn_walk 10 = .ok (.iload_n 1, 1) := by decide +kernel
theorem dUn_walk_11 : decode cUn_walk 11 = .ok (.istore_n 3, 1) := by decide +kernel
theorem dUn_walk_12 : decode cUn_walk 12 = .ok (.iconst 0, 1) := by decide +kernel
theorem dUn_walk_13 : decode cUn_walk 13 = .ok (.istore 4, 2) := by decide +kernel
theorem dUn_walk_15 : decode cUn_walk 15 = .ok (.iload_n 3, 1) := by decide +kernel
theorem dUn_walk_16 : decode cUn_walk 16 = .ok (.ifCond .lt 99, 3) := by decide +kernel
theorem dUn_walk_19 : decode cUn_walk 19 = .ok (.iload 4, 2) := by decide +kernel
theorem dUn_walk_21 : decode cUn_walk 21 = .ok (.sipush 2700, 3) := by decide +kernel
theorem dUn_walk_24 : decode cUn_walk 24 = .ok (.if_icmp .ge 91, 3) := by decide +kernel
theorem dUn_walk_27 : decode cUn_walk 27 = .ok (.aload_n 0, 1) := by decide +kernel
theorem dUn_walk_28 : decode cUn_walk 28 = .ok (.getfield 40, 3) := by decide +kernel
theorem dUn_walk_31 : decode cUn_walk 31 = .ok (.iload_n 3, 1) := by decide +kernel
theorem dUn_walk_32 : decode cUn_walk 32 = .ok (.iconst 0, 1) := by decide +kernel
theorem dUn_walk_33 : decode cUn_walk 33 = .ok (.invokevirtual 91, 3) := by decide +kernel
theorem dUn_walk_36 : decode cUn_walk 36 = .ok (.bipush 7, 2) := by decide +kernel
theorem dUn_walk_38 : decode cUn_walk 38 = .ok (.if_icmp .ne 12, 3) := by decide +kernel
theorem dUn_walk_41 : decode cUn_walk 41 = .ok (.aload_n 0, 1) := by decide +kernel
theorem dUn_walk_42 : decode cUn_walk 42 = .ok (.iload_n 3, 1) := by decide +kernel
theorem dUn_walk_43 : decode cUn_walk 43 = .ok (.iload_n 2, 1) := by decide +kernel
theorem dUn_walk_44 : decode cUn_walk 44 = .ok (.invokevirtual 95, 3) := by decide +kernel
theorem dUn_walk_47 : decode cUn_walk 47 = .ok (.goto 51, 3) := by decide +kernel
theorem dUn_walk_50 : decode cUn_walk 50 = .ok (.aload_n 0, 1) := by decide +kernel
theorem dUn_walk_51 : decode cUn_walk 51 = .ok (.getfield 40, 3) := by decide +kernel
theorem dUn_walk_54 : decode cUn_walk 54 = .ok (.iload_n 3, 1) := by decide +kernel
theorem dUn_walk_55 : decode cUn_walk 55 = .ok (.iconst 5, 1) := by decide +kernel
theorem dUn_walk_56 : decode cUn_walk 56 = .ok (.invokevirtual 91, 3) := by decide +kernel
theorem dUn_walk_59 : decode cUn_walk 59 = .ok (.istore 5, 2) := by decide +kernel
theorem dUn_walk_61 : decode cUn_walk 61 = .ok (.aload_n 0, 1) := by decide +kernel
theorem dUn_walk_62 : decode cUn_walk 62 = .ok (.aload_n 0, 1) := by decide +kernel
theorem dUn_walk_63 : decode cUn_walk 63 = .ok (.getfield 40, 3) := by decide +kernel
theorem dUn_walk_66 : decode cUn_walk 66 = .ok (.iload_n 3, 1) := by decide +kernel
theorem dUn_walk_67 : decode cUn_walk 67 = .ok (.iconst 4, 1) := by decide +kernel
theorem dUn_walk_68 : decode cUn_walk 68 = .ok (.invokevirtual 91, 3) := by decide +kernel
theorem dUn_walk_71 : decode cUn_walk 71 = .ok (.iload 5, 2) := by decide +kernel
theorem dUn_walk_73 : decode cUn_walk 73 = .ok (.invokevirtual 99, 3) := by decide +kernel
theorem dUn_walk_76 : decode cUn_walk 76 = .ok (.aload_n 0, 1) := by decide +kernel
theorem dUn_walk_77 : decode cUn_walk 77 = .ok (.iload 5, 2) := by decide +kernel
theorem dUn_walk_79 : decode cUn_walk 79 = .ok (.aload_n 0, 1) := by decide +kernel
theorem dUn_walk_80 : decode cUn_walk 80 = .ok (.getfield 40, 3) := by decide +kernel
theorem dUn_walk_83 : decode cUn_walk 83 = .ok (.iload_n 3, 1) := by decide +kernel
theorem dUn_walk_84 : decode cUn_walk 84 = .ok (.bipush 6, 2) := by decide +kernel
theorem dUn_walk_86 : decode cUn_walk 86 = .ok (.invokevirtual 91, 3) := by decide +kernel
theorem dUn_walk_89 : decode cUn_walk 89 = .ok (.invokevirtual 99, 3) := by decide +kernel
theorem dUn_walk_92 : decode cUn_walk 92 = .ok (.aload_n 0, 1) := by decide +kernel
theorem dUn_walk_93 : decode cUn_walk 93 = .ok (.iload_n 3, 1) := by decide +kernel
theorem dUn_walk_94 : decode cUn_walk 94 = .ok (.iload_n 2, 1) := by decide +kernel
theorem dUn_walk_95 : decode cUn_walk 95 = .ok (.invokevirtual 102, 3) := by decide +kernel
theorem dUn_walk_98 : decode cUn_walk 98 = .ok (.aload_n 0, 1) := by decide +kernel
theorem dUn_walk_99 : decode cUn_walk 99 = .ok (.getfield 40, 3) := by decide +kernel
theorem dUn_walk_102 : decode cUn_walk 102 = .ok (.iload_n 3, 1) := by decide +kernel
theorem dUn_walk_103 : decode cUn_walk 103 = .ok (.bipush 9, 2) := by decide +kernel
theorem dUn_walk_105 : decode cUn_walk 105 = .ok (.invokevirtual 91, 3) := by decide +kernel
theorem dUn_walk_108 : decode cUn_walk 108 = .ok (.istore_n 3, 1) := by decide +kernel
theorem dUn_walk_109 : decode cUn_walk 109 = .ok (.iinc 4 1, 3) := by decide +kernel
theorem dUn_walk_112 : decode cUn_walk 112 = .ok (.goto (-97), 3) := by decide +kernel
theorem dUn_walk_115 : decode cUn_walk 115 = .ok (.return_, 1) := by decide +kernel
theorem dRp_prove_0 : decode cRp_prove 0 = .ok (.aload_n 0, 1) := by decide +kernel
theorem dRp_prove_1 : decode cRp_prove 1 = .ok (.getfield 125, 3) := by decide +kernel
theorem dRp_prove_4 : decode cRp_prove 4 = .ok (.ifCond .ne 5, 3) := by decide +kernel
theorem dRp_prove_7 : decode cRp_prove 7 = .ok (.iconst (-1), 1) := by decide +kernel
theorem dRp_prove_8 : decode cRp_prove 8 = .ok (.ireturn, 1) := by decide +kernel
theorem dRp_prove_9 : decode cRp_prove 9 = .ok (.aload_n 0, 1) := by decide +kernel
theorem dRp_prove_10 : decode cRp_prove 10 = .ok (.iconst 0, 1) := by decide +kernel
theorem dRp_prove_11 : decode cRp_prove 11 = .ok (.putfield 145, 3) := by decide +kernel
theorem dRp_prove_14 : decode cRp_prove 14 = .ok (.iconst 0, 1) := by decide +kernel
theorem dRp_prove_15 : decode cRp_prove 15 = .ok (.istore_n 1, 1) := by decide +kernel
theorem dRp_prove_16 : decode cRp_prove 16 = .ok (.iload_n 1, 1) := by decide +kernel
theorem dRp_prove_17 : decode cRp_prove 17 = .ok (.aload_n 0, 1) := by decide +kernel
theorem dRp_prove_18 : decode cRp_prove 18 = .ok (.getfield 17, 3) := by decide +kernel
theorem dRp_prove_21 : decode cRp_prove 21 = .ok (.getfield 142, 3) := by decide +kernel
theorem dRp_prove_24 : decode cRp_prove 24 = .ok (.if_icmp .ge 22, 3) := by decide +kernel
theorem dRp_prove_27 : decode cRp_prove 27 = .ok (.aload_n 0, 1) := by decide +kernel
theorem dRp_prove_28 : decode cRp_prove 28 = .ok (.aload_n 0, 1) := by decide +kernel
theorem dRp_prove_29 : decode cRp_prove 29 = .ok (.getfield 42, 3) := by decide +kernel
theorem dRp_prove_32 : decode cRp_prove 32 = .ok (.getfield 148, 3) := by decide +kernel
theorem dRp_prove_35 : decode cRp_prove 35 = .ok (.iload_n 1, 1) := by decide +kernel
theorem dRp_prove_36 : decode cRp_prove 36 = .ok (.iaload, 1) := by decide +kernel
theorem dRp_prove_37 : decode cRp_prove 37 = .ok (.invokevirtual 151, 3) := by decide +kernel
theorem dRp_prove_40 : decode cRp_prove 40 = .ok (.iinc 1 1, 3) := by decide +kernel
theorem dRp_prove_43 : decode cRp_prove 43 = .ok (.goto (-27), 3) := by decide +kernel
theorem dRp_prove_46 : decode cRp_prove 46 = .ok (.aload_n 0, 1) := by decide +kernel
theorem dRp_prove_47 : decode cRp_prove 47 = .ok (.iconst 0, 1) := by decide +kernel
theorem dRp_prove_48 : decode cRp_prove 48 = .ok (.invokevirtual 154, 3) := by decide +kernel
theorem dRp_prove_51 : decode cRp_prove 51 = .ok (.ifCond .eq 10, 3) := by decide +kernel
theorem dRp_prove_54 : decode cRp_prove 54 = .ok (.aload_n 0, 1) := by decide +kernel
theorem dRp_prove_55 : decode cRp_prove 55 = .ok (.invokevirtual 158, 3) := by decide +kernel
theorem dRp_prove_58 : decode cRp_prove 58 = .ok (.goto 4, 3) := by decide +kernel
theorem dRp_prove_61 : decode cRp_prove 61 = .ok (.iconst (-1), 1) := by decide +kernel
theorem dRp_prove_62 : decode cRp_prove 62 = .ok (.ireturn, 1) := by decide +kernel
theorem dRp_run_0 : decode cRp_run 0 = .ok (.aload_n 0, 1) := by decide +kernel
theorem dRp_run_1 : decode cRp_run 1 = .ok (.getfield 125, 3) := by decide +kernel
theorem dRp_run_4 : decode cRp_run 4 = .ok (.ifCond .ne 6, 3) := by decide +kernel
theorem dRp_run_7 : decode cRp_run 7 = .ok (.bipush (-3), 2) := by decide +kernel
theorem dRp_run_9 : decode cRp_run 9 = .ok (.ireturn, 1) := by decide +kernel
theorem dRp_run_10 : decode cRp_run 10 = .ok (.aload_n 0, 1) := by decide +kernel
theorem dRp_run_11 : decode cRp_run 11 = .ok (.invokevirtual 158, 3) := by decide +kernel
theorem dRp_run_14 : decode cRp_run 14 = .ok (.istore_n 1, 1) := by decide +kernel
theorem dRp_run_15 : decode cRp_run 15 = .ok (.iload_n 1, 1) := by decide +kernel
theorem dRp_run_16 : decode cRp_run 16 = .ok (.ifCond .lt 5, 3) := by decide +kernel
theorem dRp_run_19 : decode cRp_run 19 = .ok (.iload_n 1, 1) := by decide +kernel
theorem dRp_run_20 : decode cRp_run 20 = .ok (.ireturn, 1) := by decide +kernel
theorem dRp_run_21 : decode cRp_run 21 = .ok (.aload_n 0, 1) := by decide +kernel
theorem dRp_run_22 : decode cRp_run 22 = .ok (.getfield 33, 3) := by decide +kernel
theorem dRp_run_25 : decode cRp_run 25 = .ok (.aload_n 0, 1) := by decide +kernel
theorem dRp_run_26 : decode cRp_run 26 = .ok (.getfield 42, 3) := by decide +kernel
theorem dRp_run_29 : decode cRp_run 29 = .ok (.getfield 179, 3) := by decide +kernel
theorem dRp_run_32 : decode cRp_run 32 = .ok (.invokevirtual 208, 3) := by decide +kernel
theorem dRp_run_35 : decode cRp_run 35 = .ok (.ifCond .eq 7, 3) := by decide +kernel
theorem dRp_run_38 : decode cRp_run 38 = .ok (.iconst (-1), 1) := by decide +kernel
theorem dRp_run_39 : decode cRp_run 39 = .ok (.goto 5, 3) := by decide +kernel
theorem dRp_run_42 : decode cRp_run 42 = .ok (.bipush (-2), 2) := by decide +kernel
theorem dRp_run_44 : decode cRp_run 44 = .ok (.ireturn, 1) := by decide +kernel
theorem dRp_doubts_0 : decode cRp_doubts 0 = .ok (.aload_n 0, 1) := by decide +kernel
theorem dRp_doubts_1 : decode cRp_doubts 1 = .ok (.getfield 105, 3) := by decide +kernel
theorem dRp_doubts_4 : decode cRp_doubts 4 = .ok (.ireturn, 1) := by decide +kernel
theorem dRp_feed_0 : decode cRp_feed 0 = .ok (.aload_n 0, 1) := by decide +kernel
theorem dRp_feed_1 : decode cRp_feed 1 = .ok (.getfield 78, 3) := by decide +kernel
theorem dRp_feed_4 : decode cRp_feed 4 = .ok (.ldc 82, 2) := by decide +kernel
theorem dRp_feed_6 : decode cRp_feed 6 = .ok (.if_icmp .le 13, 3) := by decide +kernel
theorem dRp_feed_9 : decode cRp_feed 9 = .ok (.new 83, 3) := by decide +kernel
theorem dRp_feed_12 : decode cRp_feed 12 = .ok (.dup, 1) := by decide +kernel
theorem dRp_feed_13 : decode cRp_feed 13 = .ok (.ldc 85, 2) := by decide +kernel
theorem dRp_feed_15 : decode cRp_feed 15 = .ok (.invokespecial 87, 3) := by decide +kernel
theorem dRp_feed_18 : decode cRp_feed 18 = .ok (.athrow, 1) := by decide +kernel
theorem dRp_feed_19 : decode cRp_feed 19 = .ok (.aload_n 0, 1) := by decide +kernel
theorem dRp_feed_20 : decode cRp_feed 20 = .ok (.iload_n 1, 1) := by decide +kernel
theorem dRp_feed_21 : decode cRp_feed 21 = .ok (.invokevirtual 90, 3) := by decide +kernel
theorem dRp_feed_24 : decode cRp_feed 24 = .ok (.aload_n 0, 1) := by decide +kernel
theorem dRp_feed_25 : decode cRp_feed 25 = .ok (.iload_n 2, 1) := by decide +kernel
theorem dRp_feed_26 : decode cRp_feed 26 = .ok (.invokevirtual 90, 3) := by decide +kernel
theorem dRp_feed_29 : decode cRp_feed 29 = .ok (.aload_n 0, 1) := by decide +kernel
theorem dRp_feed_30 : decode cRp_feed 30 = .ok (.iload_n 3, 1) := by decide +kernel
theorem dRp_feed_31 : decode cRp_feed 31 = .ok (.invokevirtual 90, 3) := by decide +kernel
theorem dRp_feed_34 : decode cRp_feed 34 = .ok (.aload_n 0, 1) := by decide +kernel
theorem dRp_feed_35 : decode cRp_feed 35 = .ok (.iload 4, 2) := by decide +kernel
theorem dRp_feed_37 : decode cRp_feed 37 = .ok (.invokevirtual 90, 3) := by decide +kernel
theorem dRp_feed_40 : decode cRp_feed 40 = .ok (.aload_n 0, 1) := by decide +kernel
theorem dRp_feed_41 : decode cRp_feed 41 = .ok (.iload 5, 2) := by decide +kernel
theorem dRp_feed_43 : decode cRp_feed 43 = .ok (.invokevirtual 90, 3) := by decide +kernel
theorem dRp_feed_46 : decode cRp_feed 46 = .ok (.aload_n 0, 1) := by decide +kernel
theorem dRp_feed_47 : decode cRp_feed 47 = .ok (.getfield 78, 3) := by decide +kernel
theorem dRp_feed_50 : decode cRp_feed 50 = .ok (.ireturn, 1) := by decide +kernel
theorem dRp_store_0 : decode cRp_store 0 = .ok (.bipush 24, 2) := by decide +kernel
theorem dRp_store_2 : decode cRp_store 2 = .ok (.istore_n 2, 1) := by decide +kernel
theorem dRp_store_3 : decode cRp_store 3 = .ok (.iload_n 2, 1) := by decide +kernel
theorem dRp_store_4 : decode cRp_store 4 = .ok (.ifCond .lt 32, 3) := by decide +kernel
theorem dRp_store_7 : decode cRp_store 7 = .ok (.aload_n 0, 1) := by decide +kernel
theorem dRp_store_8 : decode cRp_store 8 = .ok (.getfield 10, 3) := by decide +kernel
theorem dRp_store_11 : decode cRp_store 11 = .ok (.aload_n 0, 1) := by decide +kernel
theorem dRp_store_12 : decode cRp_store 12 = .ok (.getfield 78, 3) := by decide +kernel
theorem dRp_store_15 : decode cRp_store 15 = .ok (.iload_n 1, 1) := by decide +kernel
theorem dRp_store_16 : decode cRp_store 16 = .ok (.iload_n 2, 1) := by decide +kernel
theorem dRp_store_17 : decode cRp_store 17 = .ok (.ishr, 1) := by decide +kernel
theorem dRp_store_18 : decode cRp_store 18 = .ok (.i2b, 1) := by decide +kernel
theorem dRp_store_19 : decode cRp_store 19 = .ok (.bastore, 1) := by decide +kernel
theorem dRp_store_20 : decode cRp_store 20 = .ok (.aload_n 0, 1) := by decide +kernel
theorem dRp_store_21 : decode cRp_store 21 = .ok (.dup, 1) := by decide +kernel
theorem dRp_store_22 : decode cRp_store 22 = .ok (.getfield 78, 3) := by decide +kernel
theorem dRp_store_25 : decode cRp_store 25 = .ok (.iconst 1, 1) := by decide +kernel
theorem dRp_store_26 : decode cRp_store 26 = .ok (.iadd, 1) := by decide +kernel
theorem dRp_store_27 : decode cRp_store 27 = .ok (.putfield 78, 3) := by decide +kernel
theorem dRp_store_30 : decode cRp_store 30 = .ok (.iinc 2 (-8), 3) := by decide +kernel
theorem dRp_store_33 : decode cRp_store 33 = .ok (.goto (-30), 3) := by decide +kernel
theorem dRp_store_36 : decode cRp_store 36 = .ok (.return_, 1) := by decide +kernel
theorem dMo_thrown_0 : decode cMo_thrown 0 = .ok (.aload_n 0, 1) := by decide +kernel
theorem dMo_thrown_1 : decode cMo_thrown 1 = .ok (.getfield 18, 3) := by decide +kernel
theorem dMo_thrown_4 : decode cMo_thrown 4 = .ok (.ireturn, 1) := by decide +kernel
theorem dMo_prove_0 : decode cMo_prove 0 = .ok (.aload_n 0, 1) := by decide +kernel
theorem dMo_prove_1 : decode cMo_prove 1 = .ok (.iconst 0, 1) := by decide +kernel
theorem dMo_prove_2 : decode cMo_prove 2 = .ok (.putfield 18, 3) := by decide +kernel
theorem dMo_prove_5 : decode cMo_prove 5 = .ok (.aload_n 0, 1) := by decide +kernel
theorem dMo_prove_6 : decode cMo_prove 6 = .ok (.getfield 27, 3) := by decide +kernel
theorem dMo_prove_9 : decode cMo_prove 9 = .ok (.ifCond .eq 20, 3) := by decide +kernel
theorem dMo_prove_12 : decode cMo_prove 12 = .ok (.aload_n 0, 1) := by decide +kernel
theorem dMo_prove_13 : decode cMo_prove 13 = .ok (.iconst 0, 1) := by decide +kernel
theorem dMo_prove_14 : decode cMo_prove 14 = .ok (.iconst 0, 1) := by decide +kernel
theorem dMo_prove_15 : decode cMo_prove 15 = .ok (.iconst 0, 1) := by decide +kernel
theorem dMo_prove_16 : decode cMo_prove 16 = .ok (.invokevirtual 405, 3) := by decide +kernel
theorem dMo_prove_19 : decode cMo_prove 19 = .ok (.ifCond .eq 10, 3) := by decide +kernel
theorem dMo_prove_22 : decode cMo_prove 22 = .ok (.aload_n 0, 1) := by decide +kernel
theorem dMo_prove_23 : decode cMo_prove 23 = .ok (.getfield 174, 3) := by decide +kernel
theorem dMo_prove_26 : decode cMo_prove 26 = .ok (.goto 4, 3) := by decide +kernel
theorem dMo_prove_29 : decode cMo_prove 29 = .ok (.iconst (-1), 1) := by decide +kernel
theorem dMo_prove_30 : decode cMo_prove 30 = .ok (.ireturn, 1) := by decide +kernel
theorem dMo_run_0 : decode cMo_run 0 = .ok (.aload_n 0, 1) := by decide +kernel
theorem dMo_run_1 : decode cMo_run 1 = .ok (.iconst 0, 1) := by decide +kernel
theorem dMo_run_2 : decode cMo_run 2 = .ok (.putfield 18, 3) := by decide +kernel
theorem dMo_run_5 : decode cMo_run 5 = .ok (.aload_n 0, 1) := by decide +kernel
theorem dMo_run_6 : decode cMo_run 6 = .ok (.getfield 27, 3) := by decide +kernel
theorem dMo_run_9 : decode cMo_run 9 = .ok (.ifCond .ne 6, 3) := by decide +kernel
theorem dMo_run_12 : decode cMo_run 12 = .ok (.bipush (-3), 2) := by decide +kernel
theorem dMo_run_14 : decode cMo_run 14 = .ok (.ireturn, 1) := by decide +kernel
theorem dMo_run_15 : decode cMo_run 15 = .ok (.aload_n 0, 1) := by decide +kernel
theorem dMo_run_16 : decode cMo_run 16 = .ok (.invokevirtual 398, 3) := by decide +kernel
theorem dMo_run_19 : decode cMo_run 19 = .ok (.aload_n 0, 1) := by decide +kernel
theorem dMo_run_20 : decode cMo_run 20 = .ok (.getfield 171, 3) := by decide +kernel
theorem dMo_run_23 : decode cMo_run 23 = .ok (.iconst 1, 1) := by decide +kernel
theorem dMo_run_24 : decode cMo_run 24 = .ok (.if_icmp .ne 10, 3) := by decide +kernel
theorem dMo_run_27 : decode cMo_run 27 = .ok (.aload_n 0, 1) := by decide +kernel
theorem dMo_run_28 : decode cMo_run 28 = .ok (.getfield 174, 3) := by decide +kernel
theorem dMo_run_31 : decode cMo_run 31 = .ok (.goto 17, 3) := by decide +kernel
theorem dMo_run_34 : decode cMo_run 34 = .ok (.aload_n 0, 1) := by decide +kernel
theorem dMo_run_35 : decode cMo_run 35 = .ok (.getfield 171, 3) := by decide +kernel
theorem dMo_run_38 : decode cMo_run 38 = .ok (.iconst 2, 1) := by decide +kernel
theorem dMo_run_39 : decode cMo_run 39 = .ok (.if_icmp .ne 8, 3) := by decide +kernel
theorem dMo_run_42 : decode cMo_run 42 = .ok (.bipush (-2), 2) := by decide +kernel
theorem dMo_run_44 : decode cMo_run 44 = .ok (.goto 4, 3) := by decide +kernel
theorem dMo_run_47 : decode cMo_run 47 = .ok (.iconst (-1), 1) := by decide +kernel
theorem dMo_run_48 : decode cMo_run 48 = .ok (.ireturn, 1) := by decide +kernel
theorem dMo_doubts_0 : decode cMo_doubts 0 = .ok (.aload_n 0, 1) := by decide +kernel
theorem dMo_doubts_1 : decode cMo_doubts 1 = .ok (.iconst 0, 1) := by decide +kernel
theorem dMo_doubts_2 : decode cMo_doubts 2 = .ok (.putfield 18, 3) := by decide +kernel
theorem dMo_doubts_5 : decode cMo_doubts 5 = .ok (.iconst 0, 1) := by decide +kernel
theorem dMo_doubts_6 : decode cMo_doubts 6 = .ok (.ireturn, 1) := by decide +kernel
theorem dMo_feed_0 : decode cMo_feed 0 = .ok (.aload_n 0, 1) := by decide +kernel
theorem dMo_feed_1 : decode cMo_feed 1 = .ok (.iconst 0, 1) := by decide +kernel
theorem dMo_feed_2 : decode cMo_feed 2 = .ok (.putfield 18, 3) := by decide +kernel
theorem dMo_feed_5 : decode cMo_feed 5 = .ok (.aload_n 0, 1) := by decide +kernel
theorem dMo_feed_6 : decode cMo_feed 6 = .ok (.iconst 1, 1) := by decide +kernel
theorem dMo_feed_7 : decode cMo_feed 7 = .ok (.aload_n 0, 1) := by decide +kernel
theorem dMo_feed_8 : decode cMo_feed 8 = .ok (.getfield 14, 3) := by decide +kernel
theorem dMo_feed_11 : decode cMo_feed 11 = .ok (.ldc 183, 2) := by decide +kernel
theorem dMo_feed_13 : decode cMo_feed 13 = .ok (.if_icmp .le 7, 3) := by decide +kernel
theorem dMo_feed_16 : decode cMo_feed 16 = .ok (.iconst 1, 1) := by decide +kernel
theorem dMo_feed_17 : decode cMo_feed 17 = .ok (.goto 4, 3) := by decide +kernel
theorem dMo_feed_20 : decode cMo_feed 20 = .ok (.iconst 0, 1) := by decide +kernel
theorem dMo_feed_21 : decode cMo_feed 21 = .ok (.invokevirtual 184, 3) := by decide +kernel
theorem dMo_feed_24 : decode cMo_feed 24 = .ok (.ifCond .eq 5, 3) := by decide +kernel
theorem dMo_feed_27 : decode cMo_feed 27 = .ok (.iconst 0, 1) := by decide +kernel
theorem dMo_feed_28 : decode cMo_feed 28 = .ok (.ireturn, 1) := by decide +kernel
theorem dMo_feed_29 : decode cMo_feed 29 = .ok (.iconst 0, 1) := by decide +kernel
theorem dMo_feed_30 : decode cMo_feed 30 = .ok (.istore 6, 2) := by decide +kernel
theorem dMo_feed_32 : decode cMo_feed 32 = .ok (.iload 6, 2) := by decide +kernel
theorem dMo_feed_34 : decode cMo_feed 34 = .ok (.bipush 20, 2) := by decide +kernel
theorem dMo_feed_36 : decode cMo_feed 36 = .ok (.if_icmp .ge 87, 3) := by decide +kernel
theorem dMo_feed_39 : decode cMo_feed 39 = .ok (.iload 6, 2) := by decide +kernel
theorem dMo_feed_41 : decode cMo_feed 41 = .ok (.iconst 4, 1) := by decide +kernel
theorem dMo_feed_42 : decode cMo_feed 42 = .ok (.if_icmp .ge 7, 3) := by decide +kernel
theorem dMo_feed_45 : decode cMo_feed 45 = .ok (.iload_n 1, 1) := by decide +kernel
theorem dMo_feed_46 : decode cMo_feed 46 = .ok (.goto 39, 3) := by decide +kernel
theorem dMo_feed_49 : decode cMo_feed 49 = .ok (.iload 6, 2) := by decide +kernel
theorem dMo_feed_51 : decode cMo_feed 51 = .ok (.bipush 8, 2) := by decide +kernel
theorem dMo_feed_53 : decode cMo_feed 53 = .ok (.if_icmp .ge 7, 3) := by decide +kernel
theorem dMo_feed_56 : decode cMo_feed 56 = .ok (.iload_n 2, 1) := by decide +kernel
theorem dMo_feed_57 : decode cMo_feed 57 = .ok (.goto 28, 3) := by decide +kernel
theorem dMo_feed_60 : decode cMo_feed 60 = .ok (.iload 6, 2) := by decide +kernel
theorem dMo_feed_62 : decode cMo_feed 62 = .ok (.bipush 12, 2) := by decide +kernel
theorem dMo_feed_64 : decode cMo_feed 64 = .ok (.if_icmp .ge 7, 3) := by decide +kernel
theorem dMo_feed_67 : decode cMo_feed 67 = .ok (.iload_n 3, 1) := by decide +kernel
theorem dMo_feed_68 : decode cMo_feed 68 = .ok (.goto 17, 3) := by decide +kernel
theorem dMo_feed_71 : decode cMo_feed 71 = .ok (.iload 6, 2) := by decide +kernel
theorem dMo_feed_73 : decode cMo_feed 73 = .ok (.bipush 16, 2) := by decide +kernel
theorem dMo_feed_75 : decode cMo_feed 75 = .ok (.if_icmp .ge 8, 3) := by decide +kernel
theorem dMo_feed_78 : decode cMo_feed 78 = .ok (.iload 4, 2) := by decide +kernel
theorem dMo_feed_80 : decode cMo_feed 80 = .ok (.goto 5, 3) := by decide +kernel
theorem dMo_feed_83 : decode cMo_feed 83 = .ok (.iload 5, 2) := by decide +kernel
theorem dMo_feed_85 : decode cMo_feed 85 = .ok (.istore 7, 2) := by decide +kernel
theorem dMo_feed_87 : decode cMo_feed 87 = .ok (.aload_n 0, 1) := by decide +kernel
theorem dMo_feed_88 : decode cMo_feed 88 = .ok (.getfield 8, 3) := by decide +kernel
theorem dMo_feed_91 : decode cMo_feed 91 = .ok (.aload_n 0, 1) := by decide +kernel
theorem dMo_feed_92 : decode cMo_feed 92 = .ok (.dup, 1) := by decide +kernel
theorem dMo_feed_93 : decode cMo_feed 93 = .ok (.getfield 14, 3) := by decide +kernel
theorem dMo_feed_96 : decode cMo_feed 96 = .ok (.dup_x1, 1) := by decide +kernel
theorem dMo_feed_97 : decode cMo_feed 97 = .ok (.iconst 1, 1) := by decide +kernel
theorem dMo_feed_98 : decode cMo_feed 98 = .ok (.iadd, 1) := by decide +kernel
theorem dMo_feed_99 : decode cMo_feed 99 = .ok (.putfield 14, 3) := by decide +kernel
theorem dMo_feed_102 : decode cMo_feed 102 = .ok (.iload 7, 2) := by decide +kernel
theorem dMo_feed_104 : decode cMo_feed 104 = .ok (.bipush 24, 2) := by decide +kernel
theorem dMo_feed_106 : decode cMo_feed 106 = .ok (.bipush 8, 2) := by decide +kernel
theorem dMo_feed_108 : decode cMo_feed 108 = .ok (.iload 6, 2) := by decide +kernel
theorem dMo_feed_110 : decode cMo_feed 110 = .ok (.iconst 4, 1) := by decide +kernel
theorem dMo_feed_111 : decode cMo_feed 111 = .ok (.irem, 1) := by decide +kernel
theorem dMo_feed_112 : decode cMo_feed 112 = .ok (.imul, 1) := by decide +kernel
theorem dMo_feed_113 : decode cMo_feed 113 = .ok (.isub, 1) := by decide +kernel
theorem dMo_feed_114 : decode cMo_feed 114 = .ok (.iushr, 1) := by decide +kernel
theorem dMo_feed_115 : decode cMo_feed 115 = .ok (.i2b, 1) := by decide +kernel
theorem dMo_feed_116 : decode cMo_feed 116 = .ok (.bastore, 1) := by decide +kernel
theorem dMo_feed_117 : decode cMo_feed 117 = .ok (.iinc 6 1, 3) := by decide +kernel
theorem dMo_feed_120 : decode cMo_feed 120 = .ok (.goto (-88), 3) := by decide +kernel
theorem dMo_feed_123 : decode cMo_feed 123 = .ok (.aload_n 0, 1) := by decide +kernel
theorem dMo_feed_124 : decode cMo_feed 124 = .ok (.getfield 14, 3) := by decide +kernel
theorem dMo_feed_127 : decode cMo_feed 127 = .ok (.ireturn, 1) := by decide +kernel
theorem dMo_refuse_0 : decode cMo_refuse 0 = .ok (.iload_n 2, 1) := by decide +kernel
theorem dMo_refuse_1 : decode cMo_refuse 1 = .ok (.ifCond .eq 8, 3) := by decide +kernel
theorem dMo_refuse_4 : decode cMo_refuse 4 = .ok (.aload_n 0, 1) := by decide +kernel
theorem dMo_refuse_5 : decode cMo_refuse 5 = .ok (.iload_n 1, 1) := by decide +kernel
theorem dMo_refuse_6 : decode cMo_refuse 6 = .ok (.putfield 18, 3) := by decide +kernel
theorem dMo_refuse_9 : decode cMo_refuse 9 = .ok (.iload_n 2, 1) := by decide +kernel
theorem dMo_refuse_10 : decode cMo_refuse 10 = .ok (.ireturn, 1) := by decide +kernel
theorem dMo_count_0 : decode cMo_count 0 = .ok (.aload_n 0, 1) := by decide +kernel
theorem dMo_count_1 : decode cMo_count 1 = .ok (.iconst 0, 1) := by decide +kernel
theorem dMo_count_2 : decode cMo_count 2 = .ok (.putfield 18, 3) := by decide +kernel
theorem dMo_count_5 : decode cMo_count 5 = .ok (.iload_n 1, 1) := by decide +kernel
theorem dMo_count_6 : decode cMo_count 6 = .ok (.tableswitch 115 0 6 #[42, 47, 63, 79, 84, 105, 110], 42) := by decide +kernel
theorem dMo_count_48 : decode cMo_count 48 = .ok (.aload_n 0, 1) := by decide +kernel
theorem dMo_count_49 : decode cMo_count 49 = .ok (.getfield 122, 3) := by decide +kernel
theorem dMo_count_52 : decode cMo_count 52 = .ok (.ireturn, 1) := by decide +kernel
theorem dMo_count_53 : decode cMo_count 53 = .ok (.aload_n 0, 1) := by decide +kernel
theorem dMo_count_54 : decode cMo_count 54 = .ok (.getfield 27, 3) := by decide +kernel
theorem dMo_count_57 : decode cMo_count 57 = .ok (.ifCond .eq 10, 3) := by decide +kernel
theorem dMo_count_60 : decode cMo_count 60 = .ok (.aload_n 0, 1) := by decide +kernel
theorem dMo_count_61 : decode cMo_count 61 = .ok (.getfield 131, 3) := by decide +kernel
theorem dMo_count_64 : decode cMo_count 64 = .ok (.goto 4, 3) := by decide +kernel
theorem dMo_count_67 : decode cMo_count 67 = .ok (.iconst 0, 1) := by decide +kernel
theorem dMo_count_68 : decode cMo_count 68 = .ok (.ireturn, 1) := by decide +kernel
theorem dMo_count_69 : decode cMo_count 69 = .ok (.aload_n 0, 1) := by decide +kernel
theorem dMo_count_70 : decode cMo_count 70 = .ok (.getfield 27, 3) := by decide +kernel
theorem dMo_count_73 : decode cMo_count 73 = .ok (.ifCond .eq 10, 3) := by decide +kernel
theorem dMo_count_76 : decode cMo_count 76 = .ok (.aload_n 0, 1) := by decide +kernel
theorem dMo_count_77 : decode cMo_count 77 = .ok (.getfield 128, 3) := by decide +kernel
theorem dMo_count_80 : decode cMo_count 80 = .ok (.goto 4, 3) := by decide +kernel
theorem dMo_count_83 : decode cMo_count 83 = .ok (.iconst 0, 1) := by decide +kernel
theorem dMo_count_84 : decode cMo_count 84 = .ok (.ireturn, 1) := by decide +kernel
theorem dMo_count_85 : decode cMo_count 85 = .ok (.aload_n 0, 1) := by decide +kernel
theorem dMo_count_86 : decode cMo_count 86 = .ok (.getfield 77, 3) := by decide +kernel
theorem dMo_count_89 : decode cMo_count 89 = .ok (.ireturn, 1) := by decide +kernel
theorem dMo_count_90 : decode cMo_count 90 = .ok (.aload_n 0, 1) := by decide +kernel
theorem dMo_count_91 : decode cMo_count 91 = .ok (.getfield 27, 3) := by decide +kernel
theorem dMo_count_94 : decode cMo_count 94 = .ok (.ifCond .eq 15, 3) := by decide +kernel
theorem dMo_count_97 : decode cMo_count 97 = .ok (.aload_n 0, 1) := by decide +kernel
theorem dMo_count_98 : decode cMo_count 98 = .ok (.getfield 110, 3) := by decide +kernel
theorem dMo_count_101 : decode cMo_count 101 = .ok (.aload_n 0, 1) := by decide +kernel
theorem dMo_count_102 : decode cMo_count 102 = .ok (.getfield 125, 3) := by decide +kernel
theorem dMo_count_105 : decode cMo_count 105 = .ok (.iaload, 1) := by decide +kernel
theorem dMo_count_106 : decode cMo_count 106 = .ok (.goto 4, 3) := by decide +kernel
theorem dMo_count_109 : decode cMo_count 109 = .ok (.iconst 0, 1) := by decide +kernel
theorem dMo_count_110 : decode cMo_count 110 = .ok (.ireturn, 1) := by decide +kernel
theorem dMo_count_111 : decode cMo_count 111 = .ok (.aload_n 0, 1) := by decide +kernel
theorem dMo_count_112 : decode cMo_count 112 = .ok (.getfield 14, 3) := by decide +kernel
theorem dMo_count_115 : decode cMo_count 115 = .ok (.ireturn, 1) := by decide +kernel
theorem dMo_count_116 : decode cMo_count 116 = .ok (.aload_n 0, 1) := by decide +kernel
theorem dMo_count_117 : decode cMo_count 117 = .ok (.getfield 68, 3) := by decide +kernel
theorem dMo_count_120 : decode cMo_count 120 = .ok (.ireturn, 1) := by decide +kernel
theorem dMo_count_121 : decode cMo_count 121 = .ok (.iconst (-1), 1) := by decide +kernel
theorem dMo_count_122 : decode cMo_count 122 = .ok (.ireturn, 1) := by decide +kernel
theorem dMo_fault_0 : decode cMo_fault 0 = .ok (.aload_n 0, 1) := by decide +kernel
theorem dMo_fault_1 : decode cMo_fault 1 = .ok (.iconst 0, 1) := by decide +kernel
theorem dMo_fault_2 : decode cMo_fault 2 = .ok (.putfield 18, 3) := by decide +kernel
theorem dMo_fault_5 : decode cMo_fault 5 = .ok (.iload_n 1, 1) := by decide +kernel
theorem dMo_fault_6 : decode cMo_fault 6 = .ok (.ifCond .ne 10, 3) := by decide +kernel
theorem dMo_fault_9 : decode cMo_fault 9 = .ok (.aload_n 0, 1) := by decide +kernel
theorem dMo_fault_10 : decode cMo_fault 10 = .ok (.getfield 21, 3) := by decide +kernel
theorem dMo_fault_13 : decode cMo_fault 13 = .ok (.goto 16, 3) := by decide +kernel
theorem dMo_fault_16 : decode cMo_fault 16 = .ok (.iload_n 1, 1) := by decide +kernel
theorem dMo_fault_17 : decode cMo_fault 17 = .ok (.iconst 1, 1) := by decide +kernel
theorem dMo_fault_18 : decode cMo_fault 18 = .ok (.if_icmp .ne 10, 3) := by decide +kernel
theorem dMo_fault_21 : decode cMo_fault 21 = .ok (.aload_n 0, 1) := by decide +kernel
theorem dMo_fault_22 : decode cMo_fault 22 = .ok (.getfield 24, 3) := by decide +kernel
theorem dMo_fault_25 : decode cMo_fault 25 = .ok (.goto 4, 3) := by decide +kernel
theorem dMo_fault_28 : decode cMo_fault 28 = .ok (.iconst (-1), 1) := by decide +kernel
theorem dMo_fault_29 : decode cMo_fault 29 = .ok (.ireturn, 1) := by decide +kernel
theorem dMo_end_0 : decode cMo_end 0 = .ok (.aload_n 0, 1) := by decide +kernel
theorem dMo_end_1 : decode cMo_end 1 = .ok (.iconst 0, 1) := by decide +kernel
theorem dMo_end_2 : decode cMo_end 2 = .ok (.putfield 18, 3) := by decide +kernel
theorem dMo_end_5 : decode cMo_end 5 = .ok (.aload_n 0, 1) := by decide +kernel
theorem dMo_end_6 : decode cMo_end 6 = .ok (.iconst 1, 1) := by decide +kernel
theorem dMo_end_7 : decode cMo_end 7 = .ok (.iload_n 1, 1) := by decide +kernel
theorem dMo_end_8 : decode cMo_end 8 = .ok (.ifCond .lt 11, 3) := by decide +kernel
theorem dMo_end_11 : decode cMo_end 11 = .ok (.iload_n 1, 1) := by decide +kernel
theorem dMo_end_12 : decode cMo_end 12 = .ok (.aload_n 0, 1) := by decide +kernel
theorem dMo_end_13 : decode cMo_end 13 = .ok (.getfield 14, 3) := by decide +kernel
theorem dMo_end_16 : decode cMo_end 16 = .ok (.if_icmp .le 7, 3) := by decide +kernel
theorem dMo_end_19 : decode cMo_end 19 = .ok (.iconst 1, 1) := by decide +kernel
theorem dMo_end_20 : decode cMo_end 20 = .ok (.goto 4, 3) := by decide +kernel
theorem dMo_end_23 : decode cMo_end 23 = .ok (.iconst 0, 1) := by decide +kernel
theorem dMo_end_24 : decode cMo_end 24 = .ok (.invokevirtual 184, 3) := by decide +kernel
theorem dMo_end_27 : decode cMo_end 27 = .ok (.ifCond .eq 5, 3) := by decide +kernel
theorem dMo_end_30 : decode cMo_end 30 = .ok (.iconst 0, 1) := by decide +kernel
theorem dMo_end_31 : decode cMo_end 31 = .ok (.ireturn, 1) := by decide +kernel
theorem dMo_end_32 : decode cMo_end 32 = .ok (.aload_n 0, 1) := by decide +kernel
theorem dMo_end_33 : decode cMo_end 33 = .ok (.iload_n 1, 1) := by decide +kernel
theorem dMo_end_34 : decode cMo_end 34 = .ok (.putfield 14, 3) := by decide +kernel
theorem dMo_end_37 : decode cMo_end 37 = .ok (.iload_n 1, 1) := by decide +kernel
theorem dMo_end_38 : decode cMo_end 38 = .ok (.ireturn, 1) := by decide +kernel
theorem dMo_breaks_0 : decode cMo_breaks 0 = .ok (.aload_n 0, 1) := by decide +kernel
theorem dMo_breaks_1 : decode cMo_breaks 1 = .ok (.iload_n 1, 1) := by decide +kernel
theorem dMo_breaks_2 : decode cMo_breaks 2 = .ok (.invokevirtual 408, 3) := by decide +kernel
theorem dMo_breaks_5 : decode cMo_breaks 5 = .ok (.ifCond .eq 5, 3) := by decide +kernel
theorem dMo_breaks_8 : decode cMo_breaks 8 = .ok (.iconst 0, 1) := by decide +kernel
theorem dMo_breaks_9 : decode cMo_breaks 9 = .ok (.ireturn, 1) := by decide +kernel
theorem dMo_breaks_10 : decode cMo_breaks 10 = .ok (.aload_n 0, 1) := by decide +kernel
theorem dMo_breaks_11 : decode cMo_breaks 11 = .ok (.iconst 1, 1) := by decide +kernel
theorem dMo_breaks_12 : decode cMo_breaks 12 = .ok (.iload_n 1, 1) := by decide +kernel
theorem dMo_breaks_13 : decode cMo_breaks 13 = .ok (.iconst 0, 1) := by decide +kernel
theorem dMo_breaks_14 : decode cMo_breaks 14 = .ok (.invokevirtual 405, 3) := by decide +kernel
theorem dMo_breaks_17 : decode cMo_breaks 17 = .ok (.ifCond .eq 7, 3) := by decide +kernel
theorem dMo_breaks_20 : decode cMo_breaks 20 = .ok (.iconst 1, 1) := by decide +kernel
theorem dMo_breaks_21 : decode cMo_breaks 21 = .ok (.goto 4, 3) := by decide +kernel
theorem dMo_breaks_24 : decode cMo_breaks 24 = .ok (.iconst 0, 1) := by decide +kernel
theorem dMo_breaks_25 : decode cMo_breaks 25 = .ok (.ireturn, 1) := by decide +kernel
theorem dMo_noCheck_0 : decode cMo_noCheck 0 = .ok (.aload_n 0, 1) := by decide +kernel
theorem dMo_noCheck_1 : decode cMo_noCheck 1 = .ok (.iconst 0, 1) := by decide +kernel
theorem dMo_noCheck_2 : decode cMo_noCheck 2 = .ok (.putfield 18, 3) := by decide +kernel
theorem dMo_noCheck_5 : decode cMo_noCheck 5 = .ok (.aload_n 0, 1) := by decide +kernel
theorem dMo_noCheck_6 : decode cMo_noCheck 6 = .ok (.iconst 1, 1) := by decide +kernel
theorem dMo_noCheck_7 : decode cMo_noCheck 7 = .ok (.iload_n 1, 1) := by decide +kernel
theorem dMo_noCheck_8 : decode cMo_noCheck 8 = .ok (.ifCond .lt 11, 3) := by decide +kernel
theorem dMo_noCheck_11 : decode cMo_noCheck 11 = .ok (.iload_n 1, 1) := by decide +kernel
theorem dMo_noCheck_12 : decode cMo_noCheck 12 = .ok (.aload_n 0, 1) := by decide +kernel
theorem dMo_noCheck_13 : decode cMo_noCheck 13 = .ok (.getfield 122, 3) := by decide +kernel
theorem dMo_noCheck_16 : decode cMo_noCheck 16 = .ok (.if_icmp .lt 7, 3) := by decide +kernel
theorem dMo_noCheck_19 : decode cMo_noCheck 19 = .ok (.iconst 1, 1) := by decide +kernel
theorem dMo_noCheck_20 : decode cMo_noCheck 20 = .ok (.goto 4, 3) := by decide +kernel
theorem dMo_noCheck_23 : decode cMo_noCheck 23 = .ok (.iconst 0, 1) := by decide +kernel
theorem dMo_noCheck_24 : decode cMo_noCheck 24 = .ok (.invokevirtual 184, 3) := by decide +kernel
theorem dMo_noCheck_27 : decode cMo_noCheck 27 = .ok (.ireturn, 1) := by decide +kernel
theorem dMo_reaches_0 : decode cMo_reaches 0 = .ok (.aload_n 0, 1) := by decide +kernel
theorem dMo_reaches_1 : decode cMo_reaches 1 = .ok (.iload_n 1, 1) := by decide +kernel
theorem dMo_reaches_2 : decode cMo_reaches 2 = .ok (.invokevirtual 408, 3) := by decide +kernel
theorem dMo_reaches_5 : decode cMo_reaches 5 = .ok (.ifCond .eq 5, 3) := by decide +kernel
theorem dMo_reaches_8 : decode cMo_reaches 8 = .ok (.iconst 0, 1) := by decide +kernel
theorem dMo_reaches_9 : decode cMo_reaches 9 = .ok (.ireturn, 1) := by decide +kernel
theorem dMo_reaches_10 : decode cMo_reaches 10 = .ok (.aload_n 0, 1) := by decide +kernel
theorem dMo_reaches_11 : decode cMo_reaches 11 = .ok (.iconst 2, 1) := by decide +kernel
theorem dMo_reaches_12 : decode cMo_reaches 12 = .ok (.iload_n 1, 1) := by decide +kernel
theorem dMo_reaches_13 : decode cMo_reaches 13 = .ok (.iconst 0, 1) := by decide +kernel
theorem dMo_reaches_14 : decode cMo_reaches 14 = .ok (.invokevirtual 405, 3) := by decide +kernel
theorem dMo_reaches_17 : decode cMo_reaches 17 = .ok (.ifCond .eq 7, 3) := by decide +kernel
theorem dMo_reaches_20 : decode cMo_reaches 20 = .ok (.iconst 1, 1) := by decide +kernel
theorem dMo_reaches_21 : decode cMo_reaches 21 = .ok (.goto 4, 3) := by decide +kernel
theorem dMo_reaches_24 : decode cMo_reaches 24 = .ok (.iconst 0, 1) := by decide +kernel
theorem dMo_reaches_25 : decode cMo_reaches 25 = .ok (.ireturn, 1) := by decide +kernel
theorem dMo_ends_0 : decode cMo_ends 0 = .ok (.aload_n 0, 1) := by decide +kernel
theorem dMo_ends_1 : decode cMo_ends 1 = .ok (.iload_n 1, 1) := by decide +kernel
theorem dMo_ends_2 : decode cMo_ends 2 = .ok (.iload_n 2, 1) := by decide +kernel
theorem dMo_ends_3 : decode cMo_ends 3 = .ok (.invokevirtual 411, 3) := by decide +kernel
theorem dMo_ends_6 : decode cMo_ends 6 = .ok (.ifCond .ne 30, 3) := by decide +kernel
theorem dMo_ends_9 : decode cMo_ends 9 = .ok (.aload_n 0, 1) := by decide +kernel
theorem dMo_ends_10 : decode cMo_ends 10 = .ok (.iconst 1, 1) := by decide +kernel
theorem dMo_ends_11 : decode cMo_ends 11 = .ok (.iload_n 3, 1) := by decide +kernel
theorem dMo_ends_12 : decode cMo_ends 12 = .ok (.ifCond .lt 13, 3) := by decide +kernel
theorem dMo_ends_15 : decode cMo_ends 15 = .ok (.iload_n 3, 1) := by decide +kernel
theorem dMo_ends_16 : decode cMo_ends 16 = .ok (.iconst 1, 1) := by decide +kernel
theorem dMo_ends_17 : decode cMo_ends 17 = .ok (.aload_n 0, 1) := by decide +kernel
theorem dMo_ends_18 : decode cMo_ends 18 = .ok (.getfield 68, 3) := by decide +kernel
theorem dMo_ends_21 : decode cMo_ends 21 = .ok (.ishl, 1) := by decide +kernel
theorem dMo_ends_22 : decode cMo_ends 22 = .ok (.if_icmp .lt 7, 3) := by decide +kernel
theorem dMo_ends_25 : decode cMo_ends 25 = .ok (.iconst 1, 1) := by decide +kernel
theorem dMo_ends_26 : decode cMo_ends 26 = .ok (.goto 4, 3) := by decide +kernel
theorem dMo_ends_29 : decode cMo_ends 29 = .ok (.iconst 0, 1) := by decide +kernel
theorem dMo_ends_30 : decode cMo_ends 30 = .ok (.invokevirtual 184, 3) := by decide +kernel
theorem dMo_ends_33 : decode cMo_ends 33 = .ok (.ifCond .eq 5, 3) := by decide +kernel
theorem dMo_ends_36 : decode cMo_ends 36 = .ok (.iconst 0, 1) := by decide +kernel
theorem dMo_ends_37 : decode cMo_ends 37 = .ok (.ireturn, 1) := by decide +kernel
theorem dMo_ends_38 : decode cMo_ends 38 = .ok (.aload_n 0, 1) := by decide +kernel
theorem dMo_ends_39 : decode cMo_ends 39 = .ok (.iconst 3, 1) := by decide +kernel
theorem dMo_ends_40 : decode cMo_ends 40 = .ok (.aload_n 0, 1) := by decide +kernel
theorem dMo_ends_41 : decode cMo_ends 41 = .ok (.getfield 74, 3) := by decide +kernel
theorem dMo_ends_44 : decode cMo_ends 44 = .ok (.iload_n 1, 1) := by decide +kernel
theorem dMo_ends_45 : decode cMo_ends 45 = .ok (.iaload, 1) := by decide +kernel
theorem dMo_ends_46 : decode cMo_ends 46 = .ok (.iload_n 2, 1) := by decide +kernel
theorem dMo_ends_47 : decode cMo_ends 47 = .ok (.iadd, 1) := by decide +kernel
theorem dMo_ends_48 : decode cMo_ends 48 = .ok (.iload_n 3, 1) := by decide +kernel
theorem dMo_ends_49 : decode cMo_ends 49 = .ok (.invokevirtual 405, 3) := by decide +kernel
theorem dMo_ends_52 : decode cMo_ends 52 = .ok (.ifCond .eq 7, 3) := by decide +kernel
theorem dMo_ends_55 : decode cMo_ends 55 = .ok (.iconst 1, 1) := by decide +kernel
theorem dMo_ends_56 : decode cMo_ends 56 = .ok (.goto 4, 3) := by decide +kernel
theorem dMo_ends_59 : decode cMo_ends 59 = .ok (.iconst 0, 1) := by decide +kernel
theorem dMo_ends_60 : decode cMo_ends 60 = .ok (.ireturn, 1) := by decide +kernel
theorem dMo_noElement_0 : decode cMo_noElement 0 = .ok (.aload_n 0, 1) := by decide +kernel
theorem dMo_noElement_1 : decode cMo_noElement 1 = .ok (.iconst 0, 1) := by decide +kernel
theorem dMo_noElement_2 : decode cMo_noElement 2 = .ok (.putfield 18, 3) := by decide +kernel
theorem dMo_noElement_5 : decode cMo_noElement 5 = .ok (.aload_n 0, 1) := by decide +kernel
theorem dMo_noElement_6 : decode cMo_noElement 6 = .ok (.iconst 1, 1) := by decide +kernel
theorem dMo_noElement_7 : decode cMo_noElement 7 = .ok (.iload_n 1, 1) := by decide +kernel
theorem dMo_noElement_8 : decode cMo_noElement 8 = .ok (.ifCond .lt 29, 3) := by decide +kernel
theorem dMo_noElement_11 : decode cMo_noElement 11 = .ok (.iload_n 1, 1) := by decide +kernel
theorem dMo_noElement_12 : decode cMo_noElement 12 = .ok (.aload_n 0, 1) := by decide +kernel
theorem dMo_noElement_13 : decode cMo_noElement 13 = .ok (.getfield 77, 3) := by decide +kernel
theorem dMo_noElement_16 : decode cMo_noElement 16 = .ok (.if_icmp .ge 21, 3) := by decide +kernel
theorem dMo_noElement_19 : decode cMo_noElement 19 = .ok (.iload_n 2, 1) := by decide +kernel
theorem dMo_noElement_20 : decode cMo_noElement 20 = .ok (.ifCond .lt 17, 3) := by decide +kernel
theorem dMo_noElement_23 : decode cMo_noElement 23 = .ok (.iload_n 2, 1) := by decide +kernel
theorem dMo_noElement_24 : decode cMo_noElement 24 = .ok (.iconst 1, 1) := by decide +kernel
theorem dMo_noElement_25 : decode cMo_noElement 25 = .ok (.aload_n 0, 1) := by decide +kernel
theorem dMo_noElement_26 : decode cMo_noElement 26 = .ok (.getfield 71, 3) := by decide +kernel
theorem dMo_noElement_29 : decode cMo_noElement 29 = .ok (.iload_n 1, 1) := by decide +kernel
theorem dMo_noElement_30 : decode cMo_noElement 30 = .ok (.iaload, 1) := by decide +kernel
theorem dMo_noElement_31 : decode cMo_noElement 31 = .ok (.invokestatic 266, 3) := by decide +kernel
theorem dMo_noElement_34 : decode cMo_noElement 34 = .ok (.if_icmp .lt 7, 3) := by decide +kernel
theorem dMo_noElement_37 : decode cMo_noElement 37 = .ok (.iconst 1, 1) := by decide +kernel
theorem dMo_noElement_38 : decode cMo_noElement 38 = .ok (.goto 4, 3) := by decide +kernel
theorem dMo_noElement_41 : decode cMo_noElement 41 = .ok (.iconst 0, 1) := by decide +kernel
theorem dMo_noElement_42 : decode cMo_noElement 42 = .ok (.invokevirtual 184, 3) := by decide +kernel
theorem dMo_noElement_45 : decode cMo_noElement 45 = .ok (.ireturn, 1) := by decide +kernel
theorem dMo_check_0 : decode cMo_check 0 = .ok (.aload_n 0, 1) := by decide +kernel
theorem dMo_check_1 : decode cMo_check 1 = .ok (.iload_n 1, 1) := by decide +kernel
theorem dMo_check_2 : decode cMo_check 2 = .ok (.invokevirtual 408, 3) := by decide +kernel
theorem dMo_check_5 : decode cMo_check 5 = .ok (.ifCond .ne 25, 3) := by decide +kernel
theorem dMo_check_8 : decode cMo_check 8 = .ok (.aload_n 0, 1) := by decide +kernel
theorem dMo_check_9 : decode cMo_check 9 = .ok (.iconst 2, 1) := by decide +kernel
theorem dMo_check_10 : decode cMo_check 10 = .ok (.iload_n 2, 1) := by decide +kernel
theorem dMo_check_11 : decode cMo_check 11 = .ok (.ifCond .lt 8, 3) := by decide +kernel
theorem dMo_check_14 : decode cMo_check 14 = .ok (.iload_n 2, 1) := by decide +kernel
theorem dMo_check_15 : decode cMo_check 15 = .ok (.iconst 1, 1) := by decide +kernel
theorem dMo_check_16 : decode cMo_check 16 = .ok (.if_icmp .le 7, 3) := by decide +kernel
theorem dMo_check_19 : decode cMo_check 19 = .ok (.iconst 1, 1) := by decide +kernel
theorem dMo_check_20 : decode cMo_check 20 = .ok (.goto 4, 3) := by decide +kernel
theorem dMo_check_23 : decode cMo_check 23 = .ok (.iconst 0, 1) := by decide +kernel
theorem dMo_check_24 : decode cMo_check 24 = .ok (.invokevirtual 184, 3) := by decide +kernel
theorem dMo_check_27 : decode cMo_check 27 = .ok (.ifCond .eq 5, 3) := by decide +kernel
theorem dMo_check_30 : decode cMo_check 30 = .ok (.iconst 0, 1) := by decide +kernel
theorem dMo_check_31 : decode cMo_check 31 = .ok (.ireturn, 1) := by decide +kernel
theorem dMo_check_32 : decode cMo_check 32 = .ok (.iload_n 2, 1) := by decide +kernel
theorem dMo_check_33 : decode cMo_check 33 = .ok (.ifCond .ne 12, 3) := by decide +kernel
theorem dMo_check_36 : decode cMo_check 36 = .ok (.aload_n 0, 1) := by decide +kernel
theorem dMo_check_37 : decode cMo_check 37 = .ok (.getfield 134, 3) := by decide +kernel
theorem dMo_check_40 : decode cMo_check 40 = .ok (.iload_n 1, 1) := by decide +kernel
theorem dMo_check_41 : decode cMo_check 41 = .ok (.iaload, 1) := by decide +kernel
theorem dMo_check_42 : decode cMo_check 42 = .ok (.goto 9, 3) := by decide +kernel
theorem dMo_check_45 : decode cMo_check 45 = .ok (.aload_n 0, 1) := by decide +kernel
theorem dMo_check_46 : decode cMo_check 46 = .ok (.getfield 137, 3) := by decide +kernel
theorem dMo_check_49 : decode cMo_check 49 = .ok (.iload_n 1, 1) := by decide +kernel
theorem dMo_check_50 : decode cMo_check 50 = .ok (.iaload, 1) := by decide +kernel
theorem dMo_check_51 : decode cMo_check 51 = .ok (.ireturn, 1) := by decide +kernel
theorem dMo_input_0 : decode cMo_input 0 = .ok (.aload_n 0, 1) := by decide +kernel
theorem dMo_input_1 : decode cMo_input 1 = .ok (.iconst 0, 1) := by decide +kernel
theorem dMo_input_2 : decode cMo_input 2 = .ok (.putfield 18, 3) := by decide +kernel
theorem dMo_input_5 : decode cMo_input 5 = .ok (.aload_n 0, 1) := by decide +kernel
theorem dMo_input_6 : decode cMo_input 6 = .ok (.iconst 1, 1) := by decide +kernel
theorem dMo_input_7 : decode cMo_input 7 = .ok (.iload_n 1, 1) := by decide +kernel
theorem dMo_input_8 : decode cMo_input 8 = .ok (.ifCond .lt 18, 3) := by decide +kernel
theorem dMo_input_11 : decode cMo_input 11 = .ok (.iload_n 1, 1) := by decide +kernel
theorem dMo_input_12 : decode cMo_input 12 = .ok (.aload_n 0, 1) := by decide +kernel
theorem dMo_input_13 : decode cMo_input 13 = .ok (.getfield 131, 3) := by decide +kernel
theorem dMo_input_16 : decode cMo_input 16 = .ok (.if_icmp .ge 10, 3) := by decide +kernel
theorem dMo_input_19 : decode cMo_input 19 = .ok (.aload_n 0, 1) := by decide +kernel
theorem dMo_input_20 : decode cMo_input 20 = .ok (.getfield 27, 3) := by decide +kernel
theorem dMo_input_23 : decode cMo_input 23 = .ok (.ifCond .ne 7, 3) := by decide +kernel
theorem dMo_input_26 : decode cMo_input 26 = .ok (.iconst 1, 1) := by decide +kernel
theorem dMo_input_27 : decode cMo_input 27 = .ok (.goto 4, 3) := by decide +kernel
theorem dMo_input_30 : decode cMo_input 30 = .ok (.iconst 0, 1) := by decide +kernel
theorem dMo_input_31 : decode cMo_input 31 = .ok (.invokevirtual 184, 3) := by decide +kernel
theorem dMo_input_34 : decode cMo_input 34 = .ok (.ifCond .eq 5, 3) := by decide +kernel
theorem dMo_input_37 : decode cMo_input 37 = .ok (.iconst 0, 1) := by decide +kernel
theorem dMo_input_38 : decode cMo_input 38 = .ok (.ireturn, 1) := by decide +kernel
theorem dMo_input_39 : decode cMo_input 39 = .ok (.aload_n 0, 1) := by decide +kernel
theorem dMo_input_40 : decode cMo_input 40 = .ok (.getfield 152, 3) := by decide +kernel
theorem dMo_input_43 : decode cMo_input 43 = .ok (.iload_n 1, 1) := by decide +kernel
theorem dMo_input_44 : decode cMo_input 44 = .ok (.iaload, 1) := by decide +kernel
theorem dMo_input_45 : decode cMo_input 45 = .ok (.ireturn, 1) := by decide +kernel
theorem dMo_put_0 : decode cMo_put 0 = .ok (.aload_n 0, 1) := by decide +kernel
theorem dMo_put_1 : decode cMo_put 1 = .ok (.iconst 0, 1) := by decide +kernel
theorem dMo_put_2 : decode cMo_put 2 = .ok (.putfield 18, 3) := by decide +kernel
theorem dMo_put_5 : decode cMo_put 5 = .ok (.aload_n 0, 1) := by decide +kernel
theorem dMo_put_6 : decode cMo_put 6 = .ok (.iconst 1, 1) := by decide +kernel
theorem dMo_put_7 : decode cMo_put 7 = .ok (.iload_n 1, 1) := by decide +kernel
theorem dMo_put_8 : decode cMo_put 8 = .ok (.ifCond .lt 18, 3) := by decide +kernel
theorem dMo_put_11 : decode cMo_put 11 = .ok (.iload_n 1, 1) := by decide +kernel
theorem dMo_put_12 : decode cMo_put 12 = .ok (.aload_n 0, 1) := by decide +kernel
theorem dMo_put_13 : decode cMo_put 13 = .ok (.getfield 131, 3) := by decide +kernel
theorem dMo_put_16 : decode cMo_put 16 = .ok (.if_icmp .ge 10, 3) := by decide +kernel
theorem dMo_put_19 : decode cMo_put 19 = .ok (.aload_n 0, 1) := by decide +kernel
theorem dMo_put_20 : decode cMo_put 20 = .ok (.getfield 27, 3) := by decide +kernel
theorem dMo_put_23 : decode cMo_put 23 = .ok (.ifCond .ne 7, 3) := by decide +kernel
theorem dMo_put_26 : decode cMo_put 26 = .ok (.iconst 1, 1) := by decide +kernel
theorem dMo_put_27 : decode cMo_put 27 = .ok (.goto 4, 3) := by decide +kernel
theorem dMo_put_30 : decode cMo_put 30 = .ok (.iconst 0, 1) := by decide +kernel
theorem dMo_put_31 : decode cMo_put 31 = .ok (.invokevirtual 184, 3) := by decide +kernel
theorem dMo_put_34 : decode cMo_put 34 = .ok (.ifCond .ne 32, 3) := by decide +kernel
theorem dMo_put_37 : decode cMo_put 37 = .ok (.aload_n 0, 1) := by decide +kernel
theorem dMo_put_38 : decode cMo_put 38 = .ok (.iconst 2, 1) := by decide +kernel
theorem dMo_put_39 : decode cMo_put 39 = .ok (.iload_n 2, 1) := by decide +kernel
theorem dMo_put_40 : decode cMo_put 40 = .ok (.ifCond .lt 15, 3) := by decide +kernel
theorem dMo_put_43 : decode cMo_put 43 = .ok (.iload_n 2, 1) := by decide +kernel
theorem dMo_put_44 : decode cMo_put 44 = .ok (.iconst 1, 1) := by decide +kernel
theorem dMo_put_45 : decode cMo_put 45 = .ok (.aload_n 0, 1) := by decide +kernel
theorem dMo_put_46 : decode cMo_put 46 = .ok (.getfield 149, 3) := by decide +kernel
theorem dMo_put_49 : decode cMo_put 49 = .ok (.iload_n 1, 1) := by decide +kernel
theorem dMo_put_50 : decode cMo_put 50 = .ok (.iaload, 1) := by decide +kernel
theorem dMo_put_51 : decode cMo_put 51 = .ok (.ishl, 1) := by decide +kernel
theorem dMo_put_52 : decode cMo_put 52 = .ok (.if_icmp .lt 7, 3) := by decide +kernel
theorem dMo_put_55 : decode cMo_put 55 = .ok (.iconst 1, 1) := by decide +kernel
theorem dMo_put_56 : decode cMo_put 56 = .ok (.goto 4, 3) := by decide +kernel
theorem dMo_put_59 : decode cMo_put 59 = .ok (.iconst 0, 1) := by decide +kernel
theorem dMo_put_60 : decode cMo_put 60 = .ok (.invokevirtual 184, 3) := by decide +kernel
theorem dMo_put_63 : decode cMo_put 63 = .ok (.ifCond .eq 5, 3) := by decide +kernel
theorem dMo_put_66 : decode cMo_put 66 = .ok (.iconst 0, 1) := by decide +kernel
theorem dMo_put_67 : decode cMo_put 67 = .ok (.ireturn, 1) := by decide +kernel
theorem dMo_put_68 : decode cMo_put 68 = .ok (.aload_n 0, 1) := by decide +kernel
theorem dMo_put_69 : decode cMo_put 69 = .ok (.getfield 152, 3) := by decide +kernel
theorem dMo_put_72 : decode cMo_put 72 = .ok (.iload_n 1, 1) := by decide +kernel
theorem dMo_put_73 : decode cMo_put 73 = .ok (.iaload, 1) := by decide +kernel
theorem dMo_put_74 : decode cMo_put 74 = .ok (.istore_n 3, 1) := by decide +kernel
theorem dMo_put_75 : decode cMo_put 75 = .ok (.aload_n 0, 1) := by decide +kernel
theorem dMo_put_76 : decode cMo_put 76 = .ok (.getfield 152, 3) := by decide +kernel
theorem dMo_put_79 : decode cMo_put 79 = .ok (.iload_n 1, 1) := by decide +kernel
theorem dMo_put_80 : decode cMo_put 80 = .ok (.iload_n 2, 1) := by decide +kernel
theorem dMo_put_81 : decode cMo_put 81 = .ok (.iastore, 1) := by decide +kernel
theorem dMo_put_82 : decode cMo_put 82 = .ok (.iload_n 3, 1) := by decide +kernel
theorem dMo_put_83 : decode cMo_put 83 = .ok (.ireturn, 1) := by decide +kernel
theorem dMo_value2_0 : decode cMo_value2 0 = .ok (.aload_n 0, 1) := by decide +kernel
theorem dMo_value2_1 : decode cMo_value2 1 = .ok (.iload_n 1, 1) := by decide +kernel
theorem dMo_value2_2 : decode cMo_value2 2 = .ok (.iload_n 2, 1) := by decide +kernel
theorem dMo_value2_3 : decode cMo_value2 3 = .ok (.invokevirtual 411, 3) := by decide +kernel
theorem dMo_value2_6 : decode cMo_value2 6 = .ok (.ifCond .eq 5, 3) := by decide +kernel
theorem dMo_value2_9 : decode cMo_value2 9 = .ok (.iconst 0, 1) := by decide +kernel
theorem dMo_value2_10 : decode cMo_value2 10 = .ok (.ireturn, 1) := by decide +kernel
theorem dMo_value2_11 : decode cMo_value2 11 = .ok (.aload_n 0, 1) := by decide +kernel
theorem dMo_value2_12 : decode cMo_value2 12 = .ok (.invokevirtual 398, 3) := by decide +kernel
theorem dMo_value2_15 : decode cMo_value2 15 = .ok (.aload_n 0, 1) := by decide +kernel
theorem dMo_value2_16 : decode cMo_value2 16 = .ok (.getfield 159, 3) := by decide +kernel
theorem dMo_value2_19 : decode cMo_value2 19 = .ok (.aload_n 0, 1) := by decide +kernel
theorem dMo_value2_20 : decode cMo_value2 20 = .ok (.getfield 74, 3) := by decide +kernel
theorem dMo_value2_23 : decode cMo_value2 23 = .ok (.iload_n 1, 1) := by decide +kernel
theorem dMo_value2_24 : decode cMo_value2 24 = .ok (.iaload, 1) := by decide +kernel
theorem dMo_value2_25 : decode cMo_value2 25 = .ok (.iload_n 2, 1) := by decide +kernel
theorem dMo_value2_26 : decode cMo_value2 26 = .ok (.iadd, 1) := by decide +kernel
theorem dMo_value2_27 : decode cMo_value2 27 = .ok (.iaload, 1) := by decide +kernel
theorem dMo_value2_28 : decode cMo_value2 28 = .ok (.ireturn, 1) := by decide +kernel
theorem dRp_count_0 : decode cRp_count 0 = .ok (.iload_n 1, 1) := by decide +kernel
theorem dRp_count_1 : decode cRp_count 1 = .ok (.tableswitch 96 0 6 #[43, 51, 59, 67, 75, 83, 88], 43) := by decide +kernel
theorem dRp_count_44 : decode cRp_count 44 = .ok (.aload_n 0, 1) := by decide +kernel
theorem dRp_count_45 : decode cRp_count 45 = .ok (.getfield 17, 3) := by decide +kernel
theorem dRp_count_48 : decode cRp_count 48 = .ok (.getfield 142, 3) := by decide +kernel
theorem dRp_count_51 : decode cRp_count 51 = .ok (.ireturn, 1) := by decide +kernel
theorem dRp_count_52 : decode cRp_count 52 = .ok (.aload_n 0, 1) := by decide +kernel
theorem dRp_count_53 : decode cRp_count 53 = .ok (.getfield 42, 3) := by decide +kernel
theorem dRp_count_56 : decode cRp_count 56 = .ok (.getfield 198, 3) := by decide +kernel
theorem dRp_count_59 : decode cRp_count 59 = .ok (.ireturn, 1) := by decide +kernel
theorem dRp_count_60 : decode cRp_count 60 = .ok (.aload_n 0, 1) := by decide +kernel
theorem dRp_count_61 : decode cRp_count 61 = .ok (.getfield 42, 3) := by decide +kernel
theorem dRp_count_64 : decode cRp_count 64 = .ok (.getfield 217, 3) := by decide +kernel
theorem dRp_count_67 : decode cRp_count 67 = .ok (.ireturn, 1) := by decide +kernel
theorem dRp_count_68 : decode cRp_count 68 = .ok (.aload_n 0, 1) := by decide +kernel
theorem dRp_count_69 : decode cRp_count 69 = .ok (.getfield 17, 3) := by decide +kernel
theorem dRp_count_72 : decode cRp_count 72 = .ok (.getfield 220, 3) := by decide +kernel
theorem dRp_count_75 : decode cRp_count 75 = .ok (.ireturn, 1) := by decide +kernel
theorem dRp_count_76 : decode cRp_count 76 = .ok (.aload_n 0, 1) := by decide +kernel
theorem dRp_count_77 : decode cRp_count 77 = .ok (.getfield 17, 3) := by decide +kernel
theorem dRp_count_80 : decode cRp_count 80 = .ok (.getfield 223, 3) := by decide +kernel
theorem dRp_count_83 : decode cRp_count 83 = .ok (.ireturn, 1) := by decide +kernel
theorem dRp_count_84 : decode cRp_count 84 = .ok (.aload_n 0, 1) := by decide +kernel
theorem dRp_count_85 : decode cRp_count 85 = .ok (.getfield 78, 3) := by decide +kernel
theorem dRp_count_88 : decode cRp_count 88 = .ok (.ireturn, 1) := by decide +kernel
theorem dRp_count_89 : decode cRp_count 89 = .ok (.aload_n 0, 1) := by decide +kernel
theorem dRp_count_90 : decode cRp_count 90 = .ok (.getfield 17, 3) := by decide +kernel
theorem dRp_count_93 : decode cRp_count 93 = .ok (.getfield 174, 3) := by decide +kernel
theorem dRp_count_96 : decode cRp_count 96 = .ok (.ireturn, 1) := by decide +kernel
theorem dRp_count_97 : decode cRp_count 97 = .ok (.iconst (-1), 1) := by decide +kernel
theorem dRp_count_98 : decode cRp_count 98 = .ok (.ireturn, 1) := by decide +kernel
theorem dRp_fault_0 : decode cRp_fault 0 = .ok (.iload_n 1, 1) := by decide +kernel
theorem dRp_fault_1 : decode cRp_fault 1 = .ok (.lookupswitch 37 #[(0, 27), (1, 32)], 27) := by decide +kernel
theorem dRp_fault_28 : decode cRp_fault 28 = .ok (.aload_n 0, 1) := by decide +kernel
theorem dRp_fault_29 : decode cRp_fault 29 = .ok (.getfield 120, 3) := by decide +kernel
theorem dRp_fault_32 : decode cRp_fault 32 = .ok (.ireturn, 1) := by decide +kernel
theorem dRp_fault_33 : decode cRp_fault 33 = .ok (.aload_n 0, 1) := by decide +kernel
theorem dRp_fault_34 : decode cRp_fault 34 = .ok (.getfield 124, 3) := by decide +kernel
theorem dRp_fault_37 : decode cRp_fault 37 = .ok (.ireturn, 1) := by decide +kernel
theorem dRp_fault_38 : decode cRp_fault 38 = .ok (.iconst (-1), 1) := by decide +kernel
theorem dRp_fault_39 : decode cRp_fault 39 = .ok (.ireturn, 1) := by decide +kernel
theorem dRp_end_0 : decode cRp_end 0 = .ok (.iload_n 1, 1) := by decide +kernel
theorem dRp_end_1 : decode cRp_end 1 = .ok (.ifCond .lt 11, 3) := by decide +kernel
theorem dRp_end_4 : decode cRp_end 4 = .ok (.iload_n 1, 1) := by decide +kernel
theorem dRp_end_5 : decode cRp_end 5 = .ok (.aload_n 0, 1) := by decide +kernel
theorem dRp_end_6 : decode cRp_end 6 = .ok (.getfield 78, 3) := by decide +kernel
theorem dRp_end_9 : decode cRp_end 9 = .ok (.if_icmp .le 13, 3) := by decide +kernel
theorem dRp_end_12 : decode cRp_end 12 = .ok (.new 94, 3) := by decide +kernel
theorem dRp_end_15 : decode cRp_end 15 = .ok (.dup, 1) := by decide +kernel
theorem dRp_end_16 : decode cRp_end 16 = .ok (.ldc 96, 2) := by decide +kernel
theorem dRp_end_18 : decode cRp_end 18 = .ok (.invokespecial 98, 3) := by decide +kernel
theorem dRp_end_21 : decode cRp_end 21 = .ok (.athrow, 1) := by decide +kernel
theorem dRp_end_22 : decode cRp_end 22 = .ok (.aload_n 0, 1) := by decide +kernel
theorem dRp_end_23 : decode cRp_end 23 = .ok (.iload_n 1, 1) := by decide +kernel
theorem dRp_end_24 : decode cRp_end 24 = .ok (.putfield 78, 3) := by decide +kernel
theorem dRp_end_27 : decode cRp_end 27 = .ok (.iload_n 1, 1) := by decide +kernel
theorem dRp_end_28 : decode cRp_end 28 = .ok (.ireturn, 1) := by decide +kernel
theorem dRp_breaks_0 : decode cRp_breaks 0 = .ok (.iload_n 1, 1) := by decide +kernel
theorem dRp_breaks_1 : decode cRp_breaks 1 = .ok (.ifCond .lt 14, 3) := by decide +kernel
theorem dRp_breaks_4 : decode cRp_breaks 4 = .ok (.iload_n 1, 1) := by decide +kernel
theorem dRp_breaks_5 : decode cRp_breaks 5 = .ok (.aload_n 0, 1) := by decide +kernel
theorem dRp_breaks_6 : decode cRp_breaks 6 = .ok (.getfield 17, 3) := by decide +kernel
theorem dRp_breaks_9 : decode cRp_breaks 9 = .ok (.getfield 142, 3) := by decide +kernel
theorem dRp_breaks_12 : decode cRp_breaks 12 = .ok (.if_icmp .lt 13, 3) := by decide +kernel
theorem dRp_breaks_15 : decode cRp_breaks 15 = .ok (.new 162, 3) := by decide +kernel
theorem dRp_breaks_18 : decode cRp_breaks 18 = .ok (.dup, 1) := by decide +kernel
theorem dRp_breaks_19 : decode cRp_breaks 19 = .ok (.ldc 164, 2) := by decide +kernel
theorem dRp_breaks_21 : decode cRp_breaks 21 = .ok (.invokespecial 166, 3) := by decide +kernel
theorem dRp_breaks_24 : decode cRp_breaks 24 = .ok (.athrow, 1) := by decide +kernel
theorem dRp_breaks_25 : decode cRp_breaks 25 = .ok (.aload_n 0, 1) := by decide +kernel
theorem dRp_breaks_26 : decode cRp_breaks 26 = .ok (.iconst 0, 1) := by decide +kernel
theorem dRp_breaks_27 : decode cRp_breaks 27 = .ok (.putfield 145, 3) := by decide +kernel
theorem dRp_breaks_30 : decode cRp_breaks 30 = .ok (.aload_n 0, 1) := by decide +kernel
theorem dRp_breaks_31 : decode cRp_breaks 31 = .ok (.aload_n 0, 1) := by decide +kernel
theorem dRp_breaks_32 : decode cRp_breaks 32 = .ok (.getfield 42, 3) := by decide +kernel
theorem dRp_breaks_35 : decode cRp_breaks 35 = .ok (.getfield 148, 3) := by decide +kernel
theorem dRp_breaks_38 : decode cRp_breaks 38 = .ok (.iload_n 1, 1) := by decide +kernel
theorem dRp_breaks_39 : decode cRp_breaks 39 = .ok (.iaload, 1) := by decide +kernel
theorem dRp_breaks_40 : decode cRp_breaks 40 = .ok (.invokevirtual 151, 3) := by decide +kernel
theorem dRp_breaks_43 : decode cRp_breaks 43 = .ok (.aload_n 0, 1) := by decide +kernel
theorem dRp_breaks_44 : decode cRp_breaks 44 = .ok (.iconst 1, 1) := by decide +kernel
theorem dRp_breaks_45 : decode cRp_breaks 45 = .ok (.invokevirtual 154, 3) := by decide +kernel
theorem dRp_breaks_48 : decode cRp_breaks 48 = .ok (.ifCond .eq 7, 3) := by decide +kernel
theorem dRp_breaks_51 : decode cRp_breaks 51 = .ok (.iconst 1, 1) := by decide +kernel
theorem dRp_breaks_52 : decode cRp_breaks 52 = .ok (.goto 4, 3) := by decide +kernel
theorem dRp_breaks_55 : decode cRp_breaks 55 = .ok (.iconst 0, 1) := by decide +kernel
theorem dRp_breaks_56 : decode cRp_breaks 56 = .ok (.ireturn, 1) := by decide +kernel
theorem dRp_ends_0 : decode cRp_ends 0 = .ok (.aload_n 0, 1) := by decide +kernel
theorem dRp_ends_1 : decode cRp_ends 1 = .ok (.getfield 17, 3) := by decide +kernel
theorem dRp_ends_4 : decode cRp_ends 4 = .ok (.iload_n 1, 1) := by decide +kernel
theorem dRp_ends_5 : decode cRp_ends 5 = .ok (.iload_n 2, 1) := by decide +kernel
theorem dRp_ends_6 : decode cRp_ends 6 = .ok (.invokevirtual 170, 3) := by decide +kernel
theorem dRp_ends_9 : decode cRp_ends 9 = .ok (.ifCond .eq 20, 3) := by decide +kernel
theorem dRp_ends_12 : decode cRp_ends 12 = .ok (.iload_n 3, 1) := by decide +kernel
theorem dRp_ends_13 : decode cRp_ends 13 = .ok (.ifCond .lt 16, 3) := by decide +kernel
theorem dRp_ends_16 : decode cRp_ends 16 = .ok (.iload_n 3, 1) := by decide +kernel
theorem dRp_ends_17 : decode cRp_ends 17 = .ok (.iconst 1, 1) := by decide +kernel
theorem dRp_ends_18 : decode cRp_ends 18 = .ok (.aload_n 0, 1) := by decide +kernel
theorem dRp_ends_19 : decode cRp_ends 19 = .ok (.getfield 17, 3) := by decide +kernel
theorem dRp_ends_22 : decode cRp_ends 22 = .ok (.getfield 174, 3) := by decide +kernel
theorem dRp_ends_25 : decode cRp_ends 25 = .ok (.ishl, 1) := by decide +kernel
theorem dRp_ends_26 : decode cRp_ends 26 = .ok (.if_icmp .lt 13, 3) := by decide +kernel
theorem dRp_ends_29 : decode cRp_ends 29 = .ok (.new 162, 3) := by decide +kernel
theorem dRp_ends_32 : decode cRp_ends 32 = .ok (.dup, 1) := by decide +kernel
theorem dRp_ends_33 : decode cRp_ends 33 = .ok (.ldc 177, 2) := by decide +kernel
theorem dRp_ends_35 : decode cRp_ends 35 = .ok (.invokespecial 166, 3) := by decide +kernel
theorem dRp_ends_38 : decode cRp_ends 38 = .ok (.athrow, 1) := by decide +kernel
theorem dRp_ends_39 : decode cRp_ends 39 = .ok (.aload_n 0, 1) := by decide +kernel
theorem dRp_ends_40 : decode cRp_ends 40 = .ok (.iconst 0, 1) := by decide +kernel
theorem dRp_ends_41 : decode cRp_ends 41 = .ok (.putfield 145, 3) := by decide +kernel
theorem dRp_ends_44 : decode cRp_ends 44 = .ok (.aload_n 0, 1) := by decide +kernel
theorem dRp_ends_45 : decode cRp_ends 45 = .ok (.aload_n 0, 1) := by decide +kernel
theorem dRp_ends_46 : decode cRp_ends 46 = .ok (.getfield 42, 3) := by decide +kernel
theorem dRp_ends_49 : decode cRp_ends 49 = .ok (.getfield 179, 3) := by decide +kernel
theorem dRp_ends_52 : decode cRp_ends 52 = .ok (.invokevirtual 151, 3) := by decide +kernel
theorem dRp_ends_55 : decode cRp_ends 55 = .ok (.aload_n 0, 1) := by decide +kernel
theorem dRp_ends_56 : decode cRp_ends 56 = .ok (.getfield 17, 3) := by decide +kernel
theorem dRp_ends_59 : decode cRp_ends 59 = .ok (.getfield 182, 3) := by decide +kernel
theorem dRp_ends_62 : decode cRp_ends 62 = .ok (.iload_n 1, 1) := by decide +kernel
theorem dRp_ends_63 : decode cRp_ends 63 = .ok (.iaload, 1) := by decide +kernel
theorem dRp_ends_64 : decode cRp_ends 64 = .ok (.iload_n 2, 1) := by decide +kernel
theorem dRp_ends_65 : decode cRp_ends 65 = .ok (.iadd, 1) := by decide +kernel
theorem dRp_ends_66 : decode cRp_ends 66 = .ok (.bipush 8, 2) := by decide +kernel
theorem dRp_ends_68 : decode cRp_ends 68 = .ok (.imul, 1) := by decide +kernel
theorem dRp_ends_69 : decode cRp_ends 69 = .ok (.istore 4, 2) := by decide +kernel
theorem dRp_ends_71 : decode cRp_ends 71 = .ok (.iconst 0, 1) := by decide +kernel
theorem dRp_ends_72 : decode cRp_ends 72 = .ok (.istore 5, 2) := by decide +kernel
theorem dRp_ends_74 : decode cRp_ends 74 = .ok (.iload 5, 2) := by decide +kernel
theorem dRp_ends_76 : decode cRp_ends 76 = .ok (.aload_n 0, 1) := by decide +kernel
theorem dRp_ends_77 : decode cRp_ends 77 = .ok (.getfield 17, 3) := by decide +kernel
theorem dRp_ends_80 : decode cRp_ends 80 = .ok (.getfield 174, 3) := by decide +kernel
theorem dRp_ends_83 : decode cRp_ends 83 = .ok (.if_icmp .ge 39, 3) := by decide +kernel
theorem dRp_ends_86 : decode cRp_ends 86 = .ok (.iconst 1, 1) := by decide +kernel
theorem dRp_ends_87 : decode cRp_ends 87 = .ok (.iload_n 3, 1) := by decide +kernel
theorem dRp_ends_88 : decode cRp_ends 88 = .ok (.iload 5, 2) := by decide +kernel
theorem dRp_ends_90 : decode cRp_ends 90 = .ok (.ishr, 1) := by decide +kernel
theorem dRp_ends_91 : decode cRp_ends 91 = .ok (.iconst 1, 1) := by decide +kernel
theorem dRp_ends_92 : decode cRp_ends 92 = .ok (.iand, 1) := by decide +kernel
theorem dRp_ends_93 : decode cRp_ends 93 = .ok (.isub, 1) := by decide +kernel
theorem dRp_ends_94 : decode cRp_ends 94 = .ok (.istore 6, 2) := by decide +kernel
theorem dRp_ends_96 : decode cRp_ends 96 = .ok (.aload_n 0, 1) := by decide +kernel
theorem dRp_ends_97 : decode cRp_ends 97 = .ok (.aload_n 0, 1) := by decide +kernel
theorem dRp_ends_98 : decode cRp_ends 98 = .ok (.getfield 42, 3) := by decide +kernel
theorem dRp_ends_101 : decode cRp_ends 101 = .ok (.getfield 187, 3) := by decide +kernel
theorem dRp_ends_104 : decode cRp_ends 104 = .ok (.iload 4, 2) := by decide +kernel
theorem dRp_ends_106 : decode cRp_ends 106 = .ok (.iload 5, 2) := by decide +kernel
theorem dRp_ends_108 : decode cRp_ends 108 = .ok (.iadd, 1) := by decide +kernel
theorem dRp_ends_109 : decode cRp_ends 109 = .ok (.iaload, 1) := by decide +kernel
theorem dRp_ends_110 : decode cRp_ends 110 = .ok (.iload 6, 2) := by decide +kernel
theorem dRp_ends_112 : decode cRp_ends 112 = .ok (.ixor, 1) := by decide +kernel
theorem dRp_ends_113 : decode cRp_ends 113 = .ok (.invokevirtual 151, 3) := by decide +kernel
theorem dRp_ends_116 : decode cRp_ends 116 = .ok (.iinc 5 1, 3) := by decide +kernel
theorem dRp_ends_119 : decode cRp_ends 119 = .ok (.goto (-45), 3) := by decide +kernel
theorem dRp_ends_122 : decode cRp_ends 122 = .ok (.aload_n 0, 1) := by decide +kernel
theorem dRp_ends_123 : decode cRp_ends 123 = .ok (.iconst 1, 1) := by decide +kernel
theorem dRp_ends_124 : decode cRp_ends 124 = .ok (.invokevirtual 154, 3) := by decide +kernel
theorem dRp_ends_127 : decode cRp_ends 127 = .ok (.ifCond .eq 7, 3) := by decide +kernel
theorem dRp_ends_130 : decode cRp_ends 130 = .ok (.iconst 1, 1) := by decide +kernel
theorem dRp_ends_131 : decode cRp_ends 131 = .ok (.goto 4, 3) := by decide +kernel
theorem dRp_ends_134 : decode cRp_ends 134 = .ok (.iconst 0, 1) := by decide +kernel
theorem dRp_ends_135 : decode cRp_ends 135 = .ok (.ireturn, 1) := by decide +kernel
theorem dPg_hasElement_0 : decode cPg_hasElement 0 = .ok (.iload_n 1, 1) := by decide +kernel
theorem dPg_hasElement_1 : decode cPg_hasElement 1 = .ok (.ifCond .lt 29, 3) := by decide +kernel
theorem dPg_hasElement_4 : decode cPg_hasElement 4 = .ok (.iload_n 1, 1) := by decide +kernel
theorem dPg_hasElement_5 : decode cPg_hasElement 5 = .ok (.aload_n 0, 1) := by decide +kernel
theorem dPg_hasElement_6 : decode cPg_hasElement 6 = .ok (.getfield 51, 3) := by decide +kernel
theorem dPg_hasElement_9 : decode cPg_hasElement 9 = .ok (.if_icmp .ge 21, 3) := by decide +kernel
theorem dPg_hasElement_12 : decode cPg_hasElement 12 = .ok (.iload_n 2, 1) := by decide +kernel
theorem dPg_hasElement_13 : decode cPg_hasElement 13 = .ok (.ifCond .lt 17, 3) := by decide +kernel
theorem dPg_hasElement_16 : decode cPg_hasElement 16 = .ok (.iload_n 2, 1) := by decide +kernel
theorem dPg_hasElement_17 : decode cPg_hasElement 17 = .ok (.aload_n 0, 1) := by decide +kernel
theorem dPg_hasElement_18 : decode cPg_hasElement 18 = .ok (.getfield 29, 3) := by decide +kernel
theorem dPg_hasElement_21 : decode cPg_hasElement 21 = .ok (.iload_n 1, 1) := by decide +kernel
theorem dPg_hasElement_22 : decode cPg_hasElement 22 = .ok (.iaload, 1) := by decide +kernel
theorem dPg_hasElement_23 : decode cPg_hasElement 23 = .ok (.if_icmp .ge 7, 3) := by decide +kernel
theorem dPg_hasElement_26 : decode cPg_hasElement 26 = .ok (.iconst 1, 1) := by decide +kernel
theorem dPg_hasElement_27 : decode cPg_hasElement 27 = .ok (.goto 4, 3) := by decide +kernel
theorem dPg_hasElement_30 : decode cPg_hasElement 30 = .ok (.iconst 0, 1) := by decide +kernel
theorem dPg_hasElement_31 : decode cPg_hasElement 31 = .ok (.ireturn, 1) := by decide +kernel
theorem dRp_value_0 : decode cRp_value 0 = .ok (.aload_n 0, 1) := by decide +kernel
theorem dRp_value_1 : decode cRp_value 1 = .ok (.getfield 17, 3) := by decide +kernel
theorem dRp_value_4 : decode cRp_value 4 = .ok (.iload_n 1, 1) := by decide +kernel
theorem dRp_value_5 : decode cRp_value 5 = .ok (.iload_n 2, 1) := by decide +kernel
theorem dRp_value_6 : decode cRp_value 6 = .ok (.invokevirtual 170, 3) := by decide +kernel
theorem dRp_value_9 : decode cRp_value 9 = .ok (.ifCond .ne 13, 3) := by decide +kernel
theorem dRp_value_12 : decode cRp_value 12 = .ok (.new 162, 3) := by decide +kernel
theorem dRp_value_15 : decode cRp_value 15 = .ok (.dup, 1) := by decide +kernel
theorem dRp_value_16 : decode cRp_value 16 = .ok (.ldc 212, 2) := by decide +kernel
theorem dRp_value_18 : decode cRp_value 18 = .ok (.invokespecial 166, 3) := by decide +kernel
theorem dRp_value_21 : decode cRp_value 21 = .ok (.athrow, 1) := by decide +kernel
theorem dRp_value_22 : decode cRp_value 22 = .ok (.aload_n 0, 1) := by decide +kernel
theorem dRp_value_23 : decode cRp_value 23 = .ok (.invokevirtual 214, 3) := by decide +kernel
theorem dRp_value_26 : decode cRp_value 26 = .ok (.aload_n 0, 1) := by decide +kernel
theorem dRp_value_27 : decode cRp_value 27 = .ok (.getfield 17, 3) := by decide +kernel
theorem dRp_value_30 : decode cRp_value 30 = .ok (.getfield 182, 3) := by decide +kernel
theorem dRp_value_33 : decode cRp_value 33 = .ok (.iload_n 1, 1) := by decide +kernel
theorem dRp_value_34 : decode cRp_value 34 = .ok (.iaload, 1) := by decide +kernel
theorem dRp_value_35 : decode cRp_value 35 = .ok (.iload_n 2, 1) := by decide +kernel
theorem dRp_value_36 : decode cRp_value 36 = .ok (.iadd, 1) := by decide +kernel
theorem dRp_value_37 : decode cRp_value 37 = .ok (.bipush 8, 2) := by decide +kernel
theorem dRp_value_39 : decode cRp_value 39 = .ok (.imul, 1) := by decide +kernel
theorem dRp_value_40 : decode cRp_value 40 = .ok (.istore_n 3, 1) := by decide +kernel
theorem dRp_value_41 : decode cRp_value 41 = .ok (.iconst 0, 1) := by decide +kernel
theorem dRp_value_42 : decode cRp_value 42 = .ok (.istore 4, 2) := by decide +kernel
theorem dRp_value_44 : decode cRp_value 44 = .ok (.iconst 0, 1) := by decide +kernel
theorem dRp_value_45 : decode cRp_value 45 = .ok (.istore 5, 2) := by decide +kernel
theorem dRp_value_47 : decode cRp_value 47 = .ok (.iload 5, 2) := by decide +kernel
theorem dRp_value_49 : decode cRp_value 49 = .ok (.aload_n 0, 1) := by decide +kernel
theorem dRp_value_50 : decode cRp_value 50 = .ok (.getfield 17, 3) := by decide +kernel
theorem dRp_value_53 : decode cRp_value 53 = .ok (.getfield 174, 3) := by decide +kernel
theorem dRp_value_56 : decode cRp_value 56 = .ok (.if_icmp .ge 44, 3) := by decide +kernel
theorem dRp_value_59 : decode cRp_value 59 = .ok (.iload 4, 2) := by decide +kernel
theorem dRp_value_61 : decode cRp_value 61 = .ok (.aload_n 0, 1) := by decide +kernel
theorem dRp_value_62 : decode cRp_value 62 = .ok (.getfield 33, 3) := by decide +kernel
theorem dRp_value_65 : decode cRp_value 65 = .ok (.aload_n 0, 1) := by decide +kernel
theorem dRp_value_66 : decode cRp_value 66 = .ok (.getfield 42, 3) := by decide +kernel
theorem dRp_value_69 : decode cRp_value 69 = .ok (.getfield 187, 3) := by decide +kernel
theorem dRp_value_72 : decode cRp_value 72 = .ok (.iload_n 3, 1) := by decide +kernel
theorem dRp_value_73 : decode cRp_value 73 = .ok (.iload 5, 2) := by decide +kernel
theorem dRp_value_75 : decode cRp_value 75 = .ok (.iadd, 1) := by decide +kernel
theorem dRp_value_76 : decode cRp_value 76 = .ok (.iaload, 1) := by decide +kernel
theorem dRp_value_77 : decode cRp_value 77 = .ok (.invokevirtual 208, 3) := by decide +kernel
theorem dRp_value_80 : decode cRp_value 80 = .ok (.ifCond .eq 10, 3) := by decide +kernel
theorem dRp_value_83 : decode cRp_value 83 = .ok (.iconst 1, 1) := by decide +kernel
theorem dRp_value_84 : decode cRp_value 84 = .ok (.iload 5, 2) := by decide +kernel
theorem dRp_value_86 : decode cRp_value 86 = .ok (.ishl, 1) := by decide +kernel
theorem dRp_value_87 : decode cRp_value 87 = .ok (.goto 4, 3) := by decide +kernel
theorem dRp_value_90 : decode cRp_value 90 = .ok (.iconst 0, 1) := by decide +kernel
theorem dRp_value_91 : decode cRp_value 91 = .ok (.ior, 1) := by decide +kernel
theorem dRp_value_92 : decode cRp_value 92 = .ok (.istore 4, 2) := by decide +kernel
theorem dRp_value_94 : decode cRp_value 94 = .ok (.iinc 5 1, 3) := by decide +kernel
theorem dRp_value_97 : decode cRp_value 97 = .ok (.goto (-50), 3) := by decide +kernel
theorem dRp_value_100 : decode cRp_value 100 = .ok (.iload 4, 2) := by decide +kernel
theorem dRp_value_102 : decode cRp_value 102 = .ok (.ireturn, 1) := by decide +kernel
