abbrev b_So_init : ByteArray := prog_4_method_1_code
def y_So_init : MethodName := ⟨R_So, "<init>", "(J)V"⟩
abbrev b_Dr_init : ByteArray := prog_2_method_1_code
def y_Dr_init : MethodName := ⟨R_Dr, "<init>", "()V"⟩
abbrev b_Re_init : ByteArray := prog_3_method_1_code
def y_Re_init : MethodName := ⟨R_Re, "<init>", "(LStockDrawer$Drawing;)V"⟩
abbrev b_St_init : ByteArray := prog_5_method_1_code
def y_St_init : MethodName := ⟨R_St, "<init>", "(LStockDrawer$Drawing;LStockDrawer$Rest;)V"⟩
abbrev b_SD_init : ByteArray := prog_1_method_1_code
def y_SD_init : MethodName := ⟨R_SD, "<init>", "(I)V"⟩
abbrev b_Mo_init : ByteArray := prog_7_method_1_code
def y_Mo_init : MethodName := ⟨R_Mo, "<init>", "(I)V"⟩
theorem d_So_init_0 : decode b_So_init 0 = .ok (.aload_n 0, 1) := by decide +kernel
theorem d_So_init_1 : decode b_So_init 1 = .ok (.invokespecial 1, 3) := by decide +kernel
theorem d_So_init_4 : decode b_So_init 4 = .ok (.aload_n 0, 1) := by decide +kernel
theorem d_So_init_5 : decode b_So_init 5 = .ok (.lload_n 1, 1) := by decide +kernel
theorem d_So_init_6 : decode b_So_init 6 = .ok (.putfield 7, 3) := by decide +kernel
theorem d_So_init_9 : decode b_So_init 9 = .ok (.return_, 1) := by decide +kernel
theorem d_Dr_init_0 : decode b_Dr_init 0 = .ok (.aload_n 0, 1) := by decide +kernel
theorem d_Dr_init_1 : decode b_Dr_init 1 = .ok (.invokespecial 3, 3) := by decide +kernel
theorem d_Dr_init_4 : decode b_Dr_init 4 = .ok (.aload_n 0, 1) := by decide +kernel
theorem d_Dr_init_5 : decode b_Dr_init 5 = .ok (.iconst (-1), 1) := by decide +kernel
theorem d_Dr_init_6 : decode b_Dr_init 6 = .ok (.putfield 9, 3) := by decide +kernel
theorem d_Dr_init_9 : decode b_Dr_init 9 = .ok (.aload_n 0, 1) := by decide +kernel
theorem d_Dr_init_10 : decode b_Dr_init 10 = .ok (.iconst 0, 1) := by decide +kernel
theorem d_Dr_init_11 : decode b_Dr_init 11 = .ok (.putfield 15, 3) := by decide +kernel
theorem d_Dr_init_14 : decode b_Dr_init 14 = .ok (.aload_n 0, 1) := by decide +kernel
theorem d_Dr_init_15 : decode b_Dr_init 15 = .ok (.iconst 0, 1) := by decide +kernel
theorem d_Dr_init_16 : decode b_Dr_init 16 = .ok (.putfield 18, 3) := by decide +kernel
theorem d_Dr_init_19 : decode b_Dr_init 19 = .ok (.aload_n 0, 1) := by decide +kernel
theorem d_Dr_init_20 : decode b_Dr_init 20 = .ok (.iconst 0, 1) := by decide +kernel
theorem d_Dr_init_21 : decode b_Dr_init 21 = .ok (.putfield 21, 3) := by decide +kernel
theorem d_Dr_init_24 : decode b_Dr_init 24 = .ok (.aload_n 0, 1) := by decide +kernel
theorem d_Dr_init_25 : decode b_Dr_init 25 = .ok (.bipush 30, 2) := by decide +kernel
theorem d_Dr_init_27 : decode b_Dr_init 27 = .ok (.newarray .int, 2) := by decide +kernel
theorem d_Dr_init_29 : decode b_Dr_init 29 = .ok (.putfield 24, 3) := by decide +kernel
theorem d_Dr_init_32 : decode b_Dr_init 32 = .ok (.aload_n 0, 1) := by decide +kernel
theorem d_Dr_init_33 : decode b_Dr_init 33 = .ok (.bipush 30, 2) := by decide +kernel
theorem d_Dr_init_35 : decode b_Dr_init 35 = .ok (.newarray .int, 2) := by decide +kernel
theorem d_Dr_init_37 : decode b_Dr_init 37 = .ok (.putfield 28, 3) := by decide +kernel
theorem d_Dr_init_40 : decode b_Dr_init 40 = .ok (.aload_n 0, 1) := by decide +kernel
theorem d_Dr_init_41 : decode b_Dr_init 41 = .ok (.bipush 30, 2) := by decide +kernel
theorem d_Dr_init_43 : decode b_Dr_init 43 = .ok (.newarray .int, 2) := by decide +kernel
theorem d_Dr_init_45 : decode b_Dr_init 45 = .ok (.putfield 31, 3) := by decide +kernel
theorem d_Dr_init_48 : decode b_Dr_init 48 = .ok (.aload_n 0, 1) := by decide +kernel
theorem d_Dr_init_49 : decode b_Dr_init 49 = .ok (.bipush 30, 2) := by decide +kernel
theorem d_Dr_init_51 : decode b_Dr_init 51 = .ok (.newarray .boolean, 2) := by decide +kernel
theorem d_Dr_init_53 : decode b_Dr_init 53 = .ok (.putfield 34, 3) := by decide +kernel
theorem d_Dr_init_56 : decode b_Dr_init 56 = .ok (.aload_n 0, 1) := by decide +kernel
theorem d_Dr_init_57 : decode b_Dr_init 57 = .ok (.bipush 30, 2) := by decide +kernel
theorem d_Dr_init_59 : decode b_Dr_init 59 = .ok (.newarray .boolean, 2) := by decide +kernel
theorem d_Dr_init_61 : decode b_Dr_init 61 = .ok (.putfield 38, 3) := by decide +kernel
theorem d_Dr_init_64 : decode b_Dr_init 64 = .ok (.return_, 1) := by decide +kernel
theorem d_Re_init_0 : decode b_Re_init 0 = .ok (.aload_n 0, 1) := by decide +kernel
theorem d_Re_init_1 : decode b_Re_init 1 = .ok (.invokespecial 3, 3) := by decide +kernel
theorem d_Re_init_4 : decode b_Re_init 4 = .ok (.aload_n 0, 1) := by decide +kernel
theorem d_Re_init_5 : decode b_Re_init 5 = .ok (.aload_n 1, 1) := by decide +kernel
theorem d_Re_init_6 : decode b_Re_init 6 = .ok (.putfield 9, 3) := by decide +kernel
theorem d_Re_init_9 : decode b_Re_init 9 = .ok (.aload_n 0, 1) := by decide +kernel
theorem d_Re_init_10 : decode b_Re_init 10 = .ok (.bipush 30, 2) := by decide +kernel
theorem d_Re_init_12 : decode b_Re_init 12 = .ok (.newarray .boolean, 2) := by decide +kernel
theorem d_Re_init_14 : decode b_Re_init 14 = .ok (.putfield 15, 3) := by decide +kernel
theorem d_Re_init_17 : decode b_Re_init 17 = .ok (.return_, 1) := by decide +kernel
theorem d_St_init_0 : decode b_St_init 0 = .ok (.aload_n 0, 1) := by decide +kernel
theorem d_St_init_1 : decode b_St_init 1 = .ok (.invokespecial 3, 3) := by decide +kernel
theorem d_St_init_4 : decode b_St_init 4 = .ok (.aload_n 0, 1) := by decide +kernel
theorem d_St_init_5 : decode b_St_init 5 = .ok (.aload_n 1, 1) := by decide +kernel
theorem d_St_init_6 : decode b_St_init 6 = .ok (.putfield 9, 3) := by decide +kernel
theorem d_St_init_9 : decode b_St_init 9 = .ok (.aload_n 0, 1) := by decide +kernel
theorem d_St_init_10 : decode b_St_init 10 = .ok (.aload_n 2, 1) := by decide +kernel
theorem d_St_init_11 : decode b_St_init 11 = .ok (.putfield 15, 3) := by decide +kernel
theorem d_St_init_14 : decode b_St_init 14 = .ok (.aload_n 0, 1) := by decide +kernel
theorem d_St_init_15 : decode b_St_init 15 = .ok (.bipush 36, 2) := by decide +kernel
theorem d_St_init_17 : decode b_St_init 17 = .ok (.newarray .int, 2) := by decide +kernel
theorem d_St_init_19 : decode b_St_init 19 = .ok (.putfield 19, 3) := by decide +kernel
theorem d_St_init_22 : decode b_St_init 22 = .ok (.aload_n 0, 1) := by decide +kernel
theorem d_St_init_23 : decode b_St_init 23 = .ok (.bipush 6, 2) := by decide +kernel
theorem d_St_init_25 : decode b_St_init 25 = .ok (.newarray .int, 2) := by decide +kernel
theorem d_St_init_27 : decode b_St_init 27 = .ok (.putfield 23, 3) := by decide +kernel
theorem d_St_init_30 : decode b_St_init 30 = .ok (.aload_n 0, 1) := by decide +kernel
theorem d_St_init_31 : decode b_St_init 31 = .ok (.bipush 6, 2) := by decide +kernel
theorem d_St_init_33 : decode b_St_init 33 = .ok (.newarray .boolean, 2) := by decide +kernel
theorem d_St_init_35 : decode b_St_init 35 = .ok (.putfield 26, 3) := by decide +kernel
theorem d_St_init_38 : decode b_St_init 38 = .ok (.aload_n 0, 1) := by decide +kernel
theorem d_St_init_39 : decode b_St_init 39 = .ok (.iconst 0, 1) := by decide +kernel
theorem d_St_init_40 : decode b_St_init 40 = .ok (.putfield 30, 3) := by decide +kernel
theorem d_St_init_43 : decode b_St_init 43 = .ok (.return_, 1) := by decide +kernel
theorem d_SD_init_0 : decode b_SD_init 0 = .ok (.aload_n 0, 1) := by decide +kernel
theorem d_SD_init_1 : decode b_SD_init 1 = .ok (.invokespecial 3, 3) := by decide +kernel
theorem d_SD_init_4 : decode b_SD_init 4 = .ok (.new 9, 3) := by decide +kernel
theorem d_SD_init_7 : decode b_SD_init 7 = .ok (.dup, 1) := by decide +kernel
theorem d_SD_init_8 : decode b_SD_init 8 = .ok (.invokespecial 11, 3) := by decide +kernel
theorem d_SD_init_11 : decode b_SD_init 11 = .ok (.astore_n 2, 1) := by decide +kernel
theorem d_SD_init_12 : decode b_SD_init 12 = .ok (.new 12, 3) := by decide +kernel
theorem d_SD_init_15 : decode b_SD_init 15 = .ok (.dup, 1) := by decide +kernel
theorem d_SD_init_16 : decode b_SD_init 16 = .ok (.aload_n 2, 1) := by decide +kernel
theorem d_SD_init_17 : decode b_SD_init 17 = .ok (.invokespecial 14, 3) := by decide +kernel
theorem d_SD_init_20 : decode b_SD_init 20 = .ok (.astore_n 3, 1) := by decide +kernel
theorem d_SD_init_21 : decode b_SD_init 21 = .ok (.aload_n 0, 1) := by decide +kernel
theorem d_SD_init_22 : decode b_SD_init 22 = .ok (.new 17, 3) := by decide +kernel
theorem d_SD_init_25 : decode b_SD_init 25 = .ok (.dup, 1) := by decide +kernel
theorem d_SD_init_26 : decode b_SD_init 26 = .ok (.iload_n 1, 1) := by decide +kernel
theorem d_SD_init_27 : decode b_SD_init 27 = .ok (.i2l, 1) := by decide +kernel
theorem d_SD_init_28 : decode b_SD_init 28 = .ok (.invokespecial 19, 3) := by decide +kernel
theorem d_SD_init_31 : decode b_SD_init 31 = .ok (.putfield 22, 3) := by decide +kernel
theorem d_SD_init_34 : decode b_SD_init 34 = .ok (.aload_n 0, 1) := by decide +kernel
theorem d_SD_init_35 : decode b_SD_init 35 = .ok (.aload_n 2, 1) := by decide +kernel
theorem d_SD_init_36 : decode b_SD_init 36 = .ok (.putfield 26, 3) := by decide +kernel
theorem d_SD_init_39 : decode b_SD_init 39 = .ok (.aload_n 0, 1) := by decide +kernel
theorem d_SD_init_40 : decode b_SD_init 40 = .ok (.aload_n 3, 1) := by decide +kernel
theorem d_SD_init_41 : decode b_SD_init 41 = .ok (.putfield 30, 3) := by decide +kernel
theorem d_SD_init_44 : decode b_SD_init 44 = .ok (.aload_n 0, 1) := by decide +kernel
theorem d_SD_init_45 : decode b_SD_init 45 = .ok (.new 34, 3) := by decide +kernel
theorem d_SD_init_48 : decode b_SD_init 48 = .ok (.dup, 1) := by decide +kernel
theorem d_SD_init_49 : decode b_SD_init 49 = .ok (.aload_n 2, 1) := by decide +kernel
theorem d_SD_init_50 : decode b_SD_init 50 = .ok (.aload_n 3, 1) := by decide +kernel
theorem d_SD_init_51 : decode b_SD_init 51 = .ok (.invokespecial 36, 3) := by decide +kernel
theorem d_SD_init_54 : decode b_SD_init 54 = .ok (.putfield 39, 3) := by decide +kernel
theorem d_SD_init_57 : decode b_SD_init 57 = .ok (.aload_n 0, 1) := by decide +kernel
theorem d_SD_init_58 : decode b_SD_init 58 = .ok (.new 17, 3) := by decide +kernel
theorem d_SD_init_61 : decode b_SD_init 61 = .ok (.dup, 1) := by decide +kernel
theorem d_SD_init_62 : decode b_SD_init 62 = .ok (.iload_n 1, 1) := by decide +kernel
theorem d_SD_init_63 : decode b_SD_init 63 = .ok (.i2l, 1) := by decide +kernel
theorem d_SD_init_64 : decode b_SD_init 64 = .ok (.invokespecial 19, 3) := by decide +kernel
theorem d_SD_init_67 : decode b_SD_init 67 = .ok (.putfield 43, 3) := by decide +kernel
theorem d_SD_init_70 : decode b_SD_init 70 = .ok (.aload_n 0, 1) := by decide +kernel
theorem d_SD_init_71 : decode b_SD_init 71 = .ok (.new 9, 3) := by decide +kernel
theorem d_SD_init_74 : decode b_SD_init 74 = .ok (.dup, 1) := by decide +kernel
theorem d_SD_init_75 : decode b_SD_init 75 = .ok (.invokespecial 11, 3) := by decide +kernel
theorem d_SD_init_78 : decode b_SD_init 78 = .ok (.putfield 46, 3) := by decide +kernel
theorem d_SD_init_81 : decode b_SD_init 81 = .ok (.aload_n 0, 1) := by decide +kernel
theorem d_SD_init_82 : decode b_SD_init 82 = .ok (.iconst 0, 1) := by decide +kernel
theorem d_SD_init_83 : decode b_SD_init 83 = .ok (.putfield 49, 3) := by decide +kernel
theorem d_SD_init_86 : decode b_SD_init 86 = .ok (.return_, 1) := by decide +kernel
theorem d_Mo_init_0 : decode b_Mo_init 0 = .ok (.aload_n 0, 1) := by decide +kernel
theorem d_Mo_init_1 : decode b_Mo_init 1 = .ok (.invokespecial 1, 3) := by decide +kernel
theorem d_Mo_init_4 : decode b_Mo_init 4 = .ok (.aload_n 0, 1) := by decide +kernel
theorem d_Mo_init_5 : decode b_Mo_init 5 = .ok (.iconst (-1), 1) := by decide +kernel
theorem d_Mo_init_6 : decode b_Mo_init 6 = .ok (.putfield 9, 3) := by decide +kernel
theorem d_Mo_init_9 : decode b_Mo_init 9 = .ok (.aload_n 0, 1) := by decide +kernel
theorem d_Mo_init_10 : decode b_Mo_init 10 = .ok (.bipush 40, 2) := by decide +kernel
theorem d_Mo_init_12 : decode b_Mo_init 12 = .ok (.newarray .boolean, 2) := by decide +kernel
theorem d_Mo_init_14 : decode b_Mo_init 14 = .ok (.putfield 13, 3) := by decide +kernel
theorem d_Mo_init_17 : decode b_Mo_init 17 = .ok (.aload_n 0, 1) := by decide +kernel
theorem d_Mo_init_18 : decode b_Mo_init 18 = .ok (.bipush 8, 2) := by decide +kernel
theorem d_Mo_init_20 : decode b_Mo_init 20 = .ok (.newarray .int, 2) := by decide +kernel
theorem d_Mo_init_22 : decode b_Mo_init 22 = .ok (.putfield 17, 3) := by decide +kernel
theorem d_Mo_init_25 : decode b_Mo_init 25 = .ok (.aload_n 0, 1) := by decide +kernel
theorem d_Mo_init_26 : decode b_Mo_init 26 = .ok (.bipush 8, 2) := by decide +kernel
theorem d_Mo_init_28 : decode b_Mo_init 28 = .ok (.newarray .int, 2) := by decide +kernel
theorem d_Mo_init_30 : decode b_Mo_init 30 = .ok (.putfield 21, 3) := by decide +kernel
theorem d_Mo_init_33 : decode b_Mo_init 33 = .ok (.aload_n 0, 1) := by decide +kernel
theorem d_Mo_init_34 : decode b_Mo_init 34 = .ok (.bipush 24, 2) := by decide +kernel
theorem d_Mo_init_36 : decode b_Mo_init 36 = .ok (.newarray .int, 2) := by decide +kernel
theorem d_Mo_init_38 : decode b_Mo_init 38 = .ok (.putfield 24, 3) := by decide +kernel
theorem d_Mo_init_41 : decode b_Mo_init 41 = .ok (.aload_n 0, 1) := by decide +kernel
theorem d_Mo_init_42 : decode b_Mo_init 42 = .ok (.bipush 24, 2) := by decide +kernel
theorem d_Mo_init_44 : decode b_Mo_init 44 = .ok (.newarray .int, 2) := by decide +kernel
theorem d_Mo_init_46 : decode b_Mo_init 46 = .ok (.putfield 27, 3) := by decide +kernel
theorem d_Mo_init_49 : decode b_Mo_init 49 = .ok (.aload_n 0, 1) := by decide +kernel
theorem d_Mo_init_50 : decode b_Mo_init 50 = .ok (.bipush 24, 2) := by decide +kernel
theorem d_Mo_init_52 : decode b_Mo_init 52 = .ok (.newarray .int, 2) := by decide +kernel
theorem d_Mo_init_54 : decode b_Mo_init 54 = .ok (.putfield 30, 3) := by decide +kernel
theorem d_Mo_init_57 : decode b_Mo_init 57 = .ok (.aload_n 0, 1) := by decide +kernel
theorem d_Mo_init_58 : decode b_Mo_init 58 = .ok (.bipush 24, 2) := by decide +kernel
theorem d_Mo_init_60 : decode b_Mo_init 60 = .ok (.newarray .boolean, 2) := by decide +kernel
theorem d_Mo_init_62 : decode b_Mo_init 62 = .ok (.putfield 33, 3) := by decide +kernel
theorem d_Mo_init_65 : decode b_Mo_init 65 = .ok (.aload_n 0, 1) := by decide +kernel
theorem d_Mo_init_66 : decode b_Mo_init 66 = .ok (.bipush 24, 2) := by decide +kernel
theorem d_Mo_init_68 : decode b_Mo_init 68 = .ok (.newarray .boolean, 2) := by decide +kernel
theorem d_Mo_init_70 : decode b_Mo_init 70 = .ok (.putfield 36, 3) := by decide +kernel
theorem d_Mo_init_73 : decode b_Mo_init 73 = .ok (.aload_n 0, 1) := by decide +kernel
theorem d_Mo_init_74 : decode b_Mo_init 74 = .ok (.sipush 200, 3) := by decide +kernel
theorem d_Mo_init_77 : decode b_Mo_init 77 = .ok (.newarray .int, 2) := by decide +kernel
theorem d_Mo_init_79 : decode b_Mo_init 79 = .ok (.putfield 39, 3) := by decide +kernel
theorem d_Mo_init_82 : decode b_Mo_init 82 = .ok (.aload_n 0, 1) := by decide +kernel
theorem d_Mo_init_83 : decode b_Mo_init 83 = .ok (.bipush 64, 2) := by decide +kernel
theorem d_Mo_init_85 : decode b_Mo_init 85 = .ok (.newarray .int, 2) := by decide +kernel
theorem d_Mo_init_87 : decode b_Mo_init 87 = .ok (.putfield 42, 3) := by decide +kernel
theorem d_Mo_init_90 : decode b_Mo_init 90 = .ok (.aload_n 0, 1) := by decide +kernel
theorem d_Mo_init_91 : decode b_Mo_init 91 = .ok (.bipush 8, 2) := by decide +kernel
theorem d_Mo_init_93 : decode b_Mo_init 93 = .ok (.newarray .int, 2) := by decide +kernel
theorem d_Mo_init_95 : decode b_Mo_init 95 = .ok (.putfield 45, 3) := by decide +kernel
theorem d_Mo_init_98 : decode b_Mo_init 98 = .ok (.aload_n 0, 1) := by decide +kernel
theorem d_Mo_init_99 : decode b_Mo_init 99 = .ok (.iload_n 1, 1) := by decide +kernel
theorem d_Mo_init_100 : decode b_Mo_init 100 = .ok (.i2l, 1) := by decide +kernel
theorem d_Mo_init_101 : decode b_Mo_init 101 = .ok (.putfield 48, 3) := by decide +kernel
theorem d_Mo_init_104 : decode b_Mo_init 104 = .ok (.return_, 1) := by decide +kernel
