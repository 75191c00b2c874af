def nmX : List String := ["java/lang/RuntimeException", "java/lang/Exception"]
theorem nmX_fit : ∀ n ∈ nmX, Bundle.fit n = true := by decide +kernel
def nmY : List String := ["java/lang/Exception"]
theorem nmY_fit : ∀ n ∈ nmY, Bundle.fit n = true := by decide +kernel
def bsY : ByteArray := ⟨#[0x2a, 0x2b, 0xb7, 0x00, 0x0d, 0xb1]⟩
theorem bsY_0 : decode bsY 0 = .ok (.aload_n 0, 1) := by decide +kernel
theorem bsY_1 : decode bsY 1 = .ok (.aload_n 1, 1) := by decide +kernel
theorem bsY_2 : decode bsY 2 = .ok (.invokespecial 13, 3) := by decide +kernel
theorem bsY_5 : decode bsY 5 = .ok (.return_, 1) := by decide +kernel
abbrev b_SD_draw : ByteArray := prog_1_method_2_code
def y_SD_draw : MethodName := ⟨R_SD, "draw", "(I)I"⟩
abbrev b_SD_refuseWrongSize : ByteArray := prog_1_method_17_code
def y_SD_refuseWrongSize : MethodName := ⟨R_SD, "refuseWrongSize", "(I)V"⟩
abbrev b_SD_part : ByteArray := prog_1_method_4_code
def y_SD_part : MethodName := ⟨R_SD, "part", "(II)I"⟩
abbrev b_SD_refuseMissingPart : ByteArray := prog_1_method_18_code
def y_SD_refuseMissingPart : MethodName := ⟨R_SD, "refuseMissingPart", "(I)V"⟩
abbrev b_SD_leave : ByteArray := prog_1_method_5_code
def y_SD_leave : MethodName := ⟨R_SD, "leave", "(IZ)Z"⟩
abbrev b_SD_verdict : ByteArray := prog_1_method_7_code
def y_SD_verdict : MethodName := ⟨R_SD, "verdict", "(I)Z"⟩
abbrev b_SD_shorter : ByteArray := prog_1_method_9_code
def y_SD_shorter : MethodName := ⟨R_SD, "shorter", "()I"⟩
abbrev b_SD_left : ByteArray := prog_1_method_11_code
def y_SD_left : MethodName := ⟨R_SD, "left", "(I)I"⟩
abbrev b_SD_pieces : ByteArray := prog_1_method_13_code
def y_SD_pieces : MethodName := ⟨R_SD, "pieces", "(II)I"⟩
abbrev b_SD_refuseMissingPlace : ByteArray := prog_1_method_19_code
def y_SD_refuseMissingPlace : MethodName := ⟨R_SD, "refuseMissingPlace", "(I)V"⟩
abbrev b_SD_most : ByteArray := prog_1_method_14_code
def y_SD_most : MethodName := ⟨R_SD, "most", "(I)I"⟩
abbrev b_SD_same : ByteArray := prog_1_method_15_code
def y_SD_same : MethodName := ⟨R_SD, "same", "(JI)Z"⟩
abbrev b_La_draw : ByteArray := method_3_code
def y_La_draw : MethodName := ⟨R_La, "draw", "(LStockDrawer;I[J)I"⟩
abbrev b_La_part : ByteArray := method_4_code
def y_La_part : MethodName := ⟨R_La, "part", "(LStockDrawer;II[J)I"⟩
abbrev b_La_leave : ByteArray := method_5_code
def y_La_leave : MethodName := ⟨R_La, "leave", "(LStockDrawer;IZ[J)I"⟩
abbrev b_La_verdict : ByteArray := method_6_code
def y_La_verdict : MethodName := ⟨R_La, "verdict", "(LStockDrawer;I[J)I"⟩
abbrev b_La_shorter : ByteArray := method_7_code
def y_La_shorter : MethodName := ⟨R_La, "shorter", "(LStockDrawer;[J)I"⟩
abbrev b_La_left : ByteArray := method_8_code
def y_La_left : MethodName := ⟨R_La, "left", "(LStockDrawer;I[J)I"⟩
abbrev b_La_pieces : ByteArray := method_9_code
def y_La_pieces : MethodName := ⟨R_La, "pieces", "(LStockDrawer;II[J)I"⟩
abbrev b_La_most : ByteArray := method_10_code
def y_La_most : MethodName := ⟨R_La, "most", "(LStockDrawer;I[J)I"⟩
abbrev b_La_same : ByteArray := method_11_code
def y_La_same : MethodName := ⟨R_La, "same", "(LStockDrawer;JI[J)I"⟩
theorem d_SD_draw_0 : decode b_SD_draw 0 = .ok (.aload_n 0, 1) := by decide +kernel
theorem d_SD_draw_1 : decode b_SD_draw 1 = .ok (.iload_n 1, 1) := by decide +kernel
theorem d_SD_draw_2 : decode b_SD_draw 2 = .ok (.invokevirtual 53, 3) := by decide +kernel
theorem d_SD_draw_5 : decode b_SD_draw 5 = .ok (.aload_n 0, 1) := by decide +kernel
theorem d_SD_draw_6 : decode b_SD_draw 6 = .ok (.getfield 26, 3) := by decide +kernel
theorem d_SD_draw_9 : decode b_SD_draw 9 = .ok (.aload_n 0, 1) := by decide +kernel
theorem d_SD_draw_10 : decode b_SD_draw 10 = .ok (.getfield 22, 3) := by decide +kernel
theorem d_SD_draw_13 : decode b_SD_draw 13 = .ok (.iload_n 1, 1) := by decide +kernel
theorem d_SD_draw_14 : decode b_SD_draw 14 = .ok (.invokevirtual 57, 3) := by decide +kernel
theorem d_SD_draw_17 : decode b_SD_draw 17 = .ok (.aload_n 0, 1) := by decide +kernel
theorem d_SD_draw_18 : decode b_SD_draw 18 = .ok (.getfield 30, 3) := by decide +kernel
theorem d_SD_draw_21 : decode b_SD_draw 21 = .ok (.invokevirtual 61, 3) := by decide +kernel
theorem d_SD_draw_24 : decode b_SD_draw 24 = .ok (.aload_n 0, 1) := by decide +kernel
theorem d_SD_draw_25 : decode b_SD_draw 25 = .ok (.getfield 26, 3) := by decide +kernel
theorem d_SD_draw_28 : decode b_SD_draw 28 = .ok (.invokevirtual 64, 3) := by decide +kernel
theorem d_SD_draw_31 : decode b_SD_draw 31 = .ok (.ireturn, 1) := by decide +kernel
theorem d_SD_refuseWrongSize_0 : decode b_SD_refuseWrongSize 0 = .ok (.iload_n 1, 1) := by decide +kernel
theorem d_SD_refuseWrongSize_1 : decode b_SD_refuseWrongSize 1 = .ok (.ifCond .lt 8, 3) := by decide +kernel
theorem d_SD_refuseWrongSize_4 : decode b_SD_refuseWrongSize 4 = .ok (.iload_n 1, 1) := by decide +kernel
theorem d_SD_refuseWrongSize_5 : decode b_SD_refuseWrongSize 5 = .ok (.iconst 5, 1) := by decide +kernel
theorem d_SD_refuseWrongSize_6 : decode b_SD_refuseWrongSize 6 = .ok (.if_icmp .le 13, 3) := by decide +kernel
theorem d_SD_refuseWrongSize_9 : decode b_SD_refuseWrongSize 9 = .ok (.new 74, 3) := by decide +kernel
theorem d_SD_refuseWrongSize_12 : decode b_SD_refuseWrongSize 12 = .ok (.dup, 1) := by decide +kernel
theorem d_SD_refuseWrongSize_13 : decode b_SD_refuseWrongSize 13 = .ok (.ldc 181, 2) := by decide +kernel
theorem d_SD_refuseWrongSize_15 : decode b_SD_refuseWrongSize 15 = .ok (.invokespecial 78, 3) := by decide +kernel
theorem d_SD_refuseWrongSize_18 : decode b_SD_refuseWrongSize 18 = .ok (.athrow, 1) := by decide +kernel
theorem d_SD_refuseWrongSize_19 : decode b_SD_refuseWrongSize 19 = .ok (.return_, 1) := by decide +kernel
theorem d_SD_part_0 : decode b_SD_part 0 = .ok (.aload_n 0, 1) := by decide +kernel
theorem d_SD_part_1 : decode b_SD_part 1 = .ok (.iload_n 1, 1) := by decide +kernel
theorem d_SD_part_2 : decode b_SD_part 2 = .ok (.invokevirtual 71, 3) := by decide +kernel
theorem d_SD_part_5 : decode b_SD_part 5 = .ok (.iload_n 2, 1) := by decide +kernel
theorem d_SD_part_6 : decode b_SD_part 6 = .ok (.ifCond .lt 9, 3) := by decide +kernel
theorem d_SD_part_9 : decode b_SD_part 9 = .ok (.iload_n 2, 1) := by decide +kernel
theorem d_SD_part_10 : decode b_SD_part 10 = .ok (.bipush 7, 2) := by decide +kernel
theorem d_SD_part_12 : decode b_SD_part 12 = .ok (.if_icmp .le 13, 3) := by decide +kernel
theorem d_SD_part_15 : decode b_SD_part 15 = .ok (.new 74, 3) := by decide +kernel
theorem d_SD_part_18 : decode b_SD_part 18 = .ok (.dup, 1) := by decide +kernel
theorem d_SD_part_19 : decode b_SD_part 19 = .ok (.ldc 76, 2) := by decide +kernel
theorem d_SD_part_21 : decode b_SD_part 21 = .ok (.invokespecial 78, 3) := by decide +kernel
theorem d_SD_part_24 : decode b_SD_part 24 = .ok (.athrow, 1) := by decide +kernel
theorem d_SD_part_25 : decode b_SD_part 25 = .ok (.iload_n 2, 1) := by decide +kernel
theorem d_SD_part_26 : decode b_SD_part 26 = .ok (.tableswitch 121 0 6 #[42, 51, 60, 69, 78, 87, 104], 42) := by decide +kernel
theorem d_SD_part_68 : decode b_SD_part 68 = .ok (.aload_n 0, 1) := by decide +kernel
theorem d_SD_part_69 : decode b_SD_part 69 = .ok (.getfield 26, 3) := by decide +kernel
theorem d_SD_part_72 : decode b_SD_part 72 = .ok (.iload_n 1, 1) := by decide +kernel
theorem d_SD_part_73 : decode b_SD_part 73 = .ok (.invokevirtual 81, 3) := by decide +kernel
theorem d_SD_part_76 : decode b_SD_part 76 = .ok (.ireturn, 1) := by decide +kernel
theorem d_SD_part_77 : decode b_SD_part 77 = .ok (.aload_n 0, 1) := by decide +kernel
theorem d_SD_part_78 : decode b_SD_part 78 = .ok (.getfield 26, 3) := by decide +kernel
theorem d_SD_part_81 : decode b_SD_part 81 = .ok (.iload_n 1, 1) := by decide +kernel
theorem d_SD_part_82 : decode b_SD_part 82 = .ok (.invokevirtual 85, 3) := by decide +kernel
theorem d_SD_part_85 : decode b_SD_part 85 = .ok (.ireturn, 1) := by decide +kernel
theorem d_SD_part_86 : decode b_SD_part 86 = .ok (.aload_n 0, 1) := by decide +kernel
theorem d_SD_part_87 : decode b_SD_part 87 = .ok (.getfield 26, 3) := by decide +kernel
theorem d_SD_part_90 : decode b_SD_part 90 = .ok (.iload_n 1, 1) := by decide +kernel
theorem d_SD_part_91 : decode b_SD_part 91 = .ok (.invokevirtual 88, 3) := by decide +kernel
theorem d_SD_part_94 : decode b_SD_part 94 = .ok (.ireturn, 1) := by decide +kernel
theorem d_SD_part_95 : decode b_SD_part 95 = .ok (.aload_n 0, 1) := by decide +kernel
theorem d_SD_part_96 : decode b_SD_part 96 = .ok (.getfield 26, 3) := by decide +kernel
theorem d_SD_part_99 : decode b_SD_part 99 = .ok (.iload_n 1, 1) := by decide +kernel
theorem d_SD_part_100 : decode b_SD_part 100 = .ok (.invokevirtual 91, 3) := by decide +kernel
theorem d_SD_part_103 : decode b_SD_part 103 = .ok (.ireturn, 1) := by decide +kernel
theorem d_SD_part_104 : decode b_SD_part 104 = .ok (.aload_n 0, 1) := by decide +kernel
theorem d_SD_part_105 : decode b_SD_part 105 = .ok (.getfield 26, 3) := by decide +kernel
theorem d_SD_part_108 : decode b_SD_part 108 = .ok (.iload_n 1, 1) := by decide +kernel
theorem d_SD_part_109 : decode b_SD_part 109 = .ok (.invokevirtual 94, 3) := by decide +kernel
theorem d_SD_part_112 : decode b_SD_part 112 = .ok (.ireturn, 1) := by decide +kernel
theorem d_SD_part_113 : decode b_SD_part 113 = .ok (.aload_n 0, 1) := by decide +kernel
theorem d_SD_part_114 : decode b_SD_part 114 = .ok (.getfield 26, 3) := by decide +kernel
theorem d_SD_part_117 : decode b_SD_part 117 = .ok (.iload_n 1, 1) := by decide +kernel
theorem d_SD_part_118 : decode b_SD_part 118 = .ok (.invokevirtual 97, 3) := by decide +kernel
theorem d_SD_part_121 : decode b_SD_part 121 = .ok (.ifCond .eq 7, 3) := by decide +kernel
theorem d_SD_part_124 : decode b_SD_part 124 = .ok (.iconst 1, 1) := by decide +kernel
theorem d_SD_part_125 : decode b_SD_part 125 = .ok (.goto 4, 3) := by decide +kernel
theorem d_SD_part_128 : decode b_SD_part 128 = .ok (.iconst 0, 1) := by decide +kernel
theorem d_SD_part_129 : decode b_SD_part 129 = .ok (.ireturn, 1) := by decide +kernel
theorem d_SD_part_130 : decode b_SD_part 130 = .ok (.aload_n 0, 1) := by decide +kernel
theorem d_SD_part_131 : decode b_SD_part 131 = .ok (.getfield 26, 3) := by decide +kernel
theorem d_SD_part_134 : decode b_SD_part 134 = .ok (.iload_n 1, 1) := by decide +kernel
theorem d_SD_part_135 : decode b_SD_part 135 = .ok (.invokevirtual 101, 3) := by decide +kernel
theorem d_SD_part_138 : decode b_SD_part 138 = .ok (.ifCond .eq 7, 3) := by decide +kernel
theorem d_SD_part_141 : decode b_SD_part 141 = .ok (.iconst 1, 1) := by decide +kernel
theorem d_SD_part_142 : decode b_SD_part 142 = .ok (.goto 4, 3) := by decide +kernel
theorem d_SD_part_145 : decode b_SD_part 145 = .ok (.iconst 0, 1) := by decide +kernel
theorem d_SD_part_146 : decode b_SD_part 146 = .ok (.ireturn, 1) := by decide +kernel
theorem d_SD_part_147 : decode b_SD_part 147 = .ok (.aload_n 0, 1) := by decide +kernel
theorem d_SD_part_148 : decode b_SD_part 148 = .ok (.getfield 30, 3) := by decide +kernel
theorem d_SD_part_151 : decode b_SD_part 151 = .ok (.iload_n 1, 1) := by decide +kernel
theorem d_SD_part_152 : decode b_SD_part 152 = .ok (.invokevirtual 104, 3) := by decide +kernel
theorem d_SD_part_155 : decode b_SD_part 155 = .ok (.ifCond .eq 7, 3) := by decide +kernel
theorem d_SD_part_158 : decode b_SD_part 158 = .ok (.iconst 1, 1) := by decide +kernel
theorem d_SD_part_159 : decode b_SD_part 159 = .ok (.goto 4, 3) := by decide +kernel
theorem d_SD_part_162 : decode b_SD_part 162 = .ok (.iconst 0, 1) := by decide +kernel
theorem d_SD_part_163 : decode b_SD_part 163 = .ok (.ireturn, 1) := by decide +kernel
theorem d_SD_refuseMissingPart_0 : decode b_SD_refuseMissingPart 0 = .ok (.aload_n 0, 1) := by decide +kernel
theorem d_SD_refuseMissingPart_1 : decode b_SD_refuseMissingPart 1 = .ok (.getfield 26, 3) := by decide +kernel
theorem d_SD_refuseMissingPart_4 : decode b_SD_refuseMissingPart 4 = .ok (.iload_n 1, 1) := by decide +kernel
theorem d_SD_refuseMissingPart_5 : decode b_SD_refuseMissingPart 5 = .ok (.invokevirtual 183, 3) := by decide +kernel
theorem d_SD_refuseMissingPart_8 : decode b_SD_refuseMissingPart 8 = .ok (.ifCond .ne 13, 3) := by decide +kernel
theorem d_SD_refuseMissingPart_11 : decode b_SD_refuseMissingPart 11 = .ok (.new 139, 3) := by decide +kernel
theorem d_SD_refuseMissingPart_14 : decode b_SD_refuseMissingPart 14 = .ok (.dup, 1) := by decide +kernel
theorem d_SD_refuseMissingPart_15 : decode b_SD_refuseMissingPart 15 = .ok (.ldc 186, 2) := by decide +kernel
theorem d_SD_refuseMissingPart_17 : decode b_SD_refuseMissingPart 17 = .ok (.invokespecial 143, 3) := by decide +kernel
theorem d_SD_refuseMissingPart_20 : decode b_SD_refuseMissingPart 20 = .ok (.athrow, 1) := by decide +kernel
theorem d_SD_refuseMissingPart_21 : decode b_SD_refuseMissingPart 21 = .ok (.return_, 1) := by decide +kernel
theorem d_SD_leave_0 : decode b_SD_leave 0 = .ok (.aload_n 0, 1) := by decide +kernel
theorem d_SD_leave_1 : decode b_SD_leave 1 = .ok (.iload_n 1, 1) := by decide +kernel
theorem d_SD_leave_2 : decode b_SD_leave 2 = .ok (.invokevirtual 71, 3) := by decide +kernel
theorem d_SD_leave_5 : decode b_SD_leave 5 = .ok (.aload_n 0, 1) := by decide +kernel
theorem d_SD_leave_6 : decode b_SD_leave 6 = .ok (.getfield 30, 3) := by decide +kernel
theorem d_SD_leave_9 : decode b_SD_leave 9 = .ok (.iload_n 1, 1) := by decide +kernel
theorem d_SD_leave_10 : decode b_SD_leave 10 = .ok (.invokevirtual 104, 3) := by decide +kernel
theorem d_SD_leave_13 : decode b_SD_leave 13 = .ok (.iload_n 2, 1) := by decide +kernel
theorem d_SD_leave_14 : decode b_SD_leave 14 = .ok (.if_icmp .eq 13, 3) := by decide +kernel
theorem d_SD_leave_17 : decode b_SD_leave 17 = .ok (.new 107, 3) := by decide +kernel
theorem d_SD_leave_20 : decode b_SD_leave 20 = .ok (.dup, 1) := by decide +kernel
theorem d_SD_leave_21 : decode b_SD_leave 21 = .ok (.ldc 109, 2) := by decide +kernel
theorem d_SD_leave_23 : decode b_SD_leave 23 = .ok (.invokespecial 111, 3) := by decide +kernel
theorem d_SD_leave_26 : decode b_SD_leave 26 = .ok (.athrow, 1) := by decide +kernel
theorem d_SD_leave_27 : decode b_SD_leave 27 = .ok (.aload_n 0, 1) := by decide +kernel
theorem d_SD_leave_28 : decode b_SD_leave 28 = .ok (.getfield 30, 3) := by decide +kernel
theorem d_SD_leave_31 : decode b_SD_leave 31 = .ok (.iload_n 1, 1) := by decide +kernel
theorem d_SD_leave_32 : decode b_SD_leave 32 = .ok (.iload_n 2, 1) := by decide +kernel
theorem d_SD_leave_33 : decode b_SD_leave 33 = .ok (.invokevirtual 112, 3) := by decide +kernel
theorem d_SD_leave_36 : decode b_SD_leave 36 = .ok (.aload_n 0, 1) := by decide +kernel
theorem d_SD_leave_37 : decode b_SD_leave 37 = .ok (.invokevirtual 116, 3) := by decide +kernel
theorem d_SD_leave_40 : decode b_SD_leave 40 = .ok (.ireturn, 1) := by decide +kernel
theorem d_SD_verdict_0 : decode b_SD_verdict 0 = .ok (.iload_n 1, 1) := by decide +kernel
theorem d_SD_verdict_1 : decode b_SD_verdict 1 = .ok (.ifCond .lt 9, 3) := by decide +kernel
theorem d_SD_verdict_4 : decode b_SD_verdict 4 = .ok (.iload_n 1, 1) := by decide +kernel
theorem d_SD_verdict_5 : decode b_SD_verdict 5 = .ok (.bipush 63, 2) := by decide +kernel
theorem d_SD_verdict_7 : decode b_SD_verdict 7 = .ok (.if_icmp .le 13, 3) := by decide +kernel
theorem d_SD_verdict_10 : decode b_SD_verdict 10 = .ok (.new 74, 3) := by decide +kernel
theorem d_SD_verdict_13 : decode b_SD_verdict 13 = .ok (.dup, 1) := by decide +kernel
theorem d_SD_verdict_14 : decode b_SD_verdict 14 = .ok (.ldc 123, 2) := by decide +kernel
theorem d_SD_verdict_16 : decode b_SD_verdict 16 = .ok (.invokespecial 78, 3) := by decide +kernel
theorem d_SD_verdict_19 : decode b_SD_verdict 19 = .ok (.athrow, 1) := by decide +kernel
theorem d_SD_verdict_20 : decode b_SD_verdict 20 = .ok (.aload_n 0, 1) := by decide +kernel
theorem d_SD_verdict_21 : decode b_SD_verdict 21 = .ok (.iload_n 1, 1) := by decide +kernel
theorem d_SD_verdict_22 : decode b_SD_verdict 22 = .ok (.putfield 49, 3) := by decide +kernel
theorem d_SD_verdict_25 : decode b_SD_verdict 25 = .ok (.aload_n 0, 1) := by decide +kernel
theorem d_SD_verdict_26 : decode b_SD_verdict 26 = .ok (.invokevirtual 116, 3) := by decide +kernel
theorem d_SD_verdict_29 : decode b_SD_verdict 29 = .ok (.ireturn, 1) := by decide +kernel
theorem d_SD_shorter_0 : decode b_SD_shorter 0 = .ok (.aload_n 0, 1) := by decide +kernel
theorem d_SD_shorter_1 : decode b_SD_shorter 1 = .ok (.invokevirtual 116, 3) := by decide +kernel
theorem d_SD_shorter_4 : decode b_SD_shorter 4 = .ok (.ifCond .ne 13, 3) := by decide +kernel
theorem d_SD_shorter_7 : decode b_SD_shorter 7 = .ok (.new 107, 3) := by decide +kernel
theorem d_SD_shorter_10 : decode b_SD_shorter 10 = .ok (.dup, 1) := by decide +kernel
theorem d_SD_shorter_11 : decode b_SD_shorter 11 = .ok (.ldc 125, 2) := by decide +kernel
theorem d_SD_shorter_13 : decode b_SD_shorter 13 = .ok (.invokespecial 111, 3) := by decide +kernel
theorem d_SD_shorter_16 : decode b_SD_shorter 16 = .ok (.athrow, 1) := by decide +kernel
theorem d_SD_shorter_17 : decode b_SD_shorter 17 = .ok (.aload_n 0, 1) := by decide +kernel
theorem d_SD_shorter_18 : decode b_SD_shorter 18 = .ok (.getfield 26, 3) := by decide +kernel
theorem d_SD_shorter_21 : decode b_SD_shorter 21 = .ok (.invokevirtual 64, 3) := by decide +kernel
theorem d_SD_shorter_24 : decode b_SD_shorter 24 = .ok (.iconst 1, 1) := by decide +kernel
theorem d_SD_shorter_25 : decode b_SD_shorter 25 = .ok (.iadd, 1) := by decide +kernel
theorem d_SD_shorter_26 : decode b_SD_shorter 26 = .ok (.istore_n 1, 1) := by decide +kernel
theorem d_SD_shorter_27 : decode b_SD_shorter 27 = .ok (.iconst 0, 1) := by decide +kernel
theorem d_SD_shorter_28 : decode b_SD_shorter 28 = .ok (.istore_n 2, 1) := by decide +kernel
theorem d_SD_shorter_29 : decode b_SD_shorter 29 = .ok (.iload_n 2, 1) := by decide +kernel
theorem d_SD_shorter_30 : decode b_SD_shorter 30 = .ok (.iload_n 1, 1) := by decide +kernel
theorem d_SD_shorter_31 : decode b_SD_shorter 31 = .ok (.if_icmp .ge 19, 3) := by decide +kernel
theorem d_SD_shorter_34 : decode b_SD_shorter 34 = .ok (.aload_n 0, 1) := by decide +kernel
theorem d_SD_shorter_35 : decode b_SD_shorter 35 = .ok (.invokevirtual 127, 3) := by decide +kernel
theorem d_SD_shorter_38 : decode b_SD_shorter 38 = .ok (.ifCond .ne 6, 3) := by decide +kernel
theorem d_SD_shorter_41 : decode b_SD_shorter 41 = .ok (.goto 9, 3) := by decide +kernel
theorem d_SD_shorter_44 : decode b_SD_shorter 44 = .ok (.iinc 2 1, 3) := by decide +kernel
theorem d_SD_shorter_47 : decode b_SD_shorter 47 = .ok (.goto (-18), 3) := by decide +kernel
theorem d_SD_shorter_50 : decode b_SD_shorter 50 = .ok (.aload_n 0, 1) := by decide +kernel
theorem d_SD_shorter_51 : decode b_SD_shorter 51 = .ok (.getfield 30, 3) := by decide +kernel
theorem d_SD_shorter_54 : decode b_SD_shorter 54 = .ok (.invokevirtual 130, 3) := by decide +kernel
theorem d_SD_shorter_57 : decode b_SD_shorter 57 = .ok (.ireturn, 1) := by decide +kernel
theorem d_SD_left_0 : decode b_SD_left 0 = .ok (.aload_n 0, 1) := by decide +kernel
theorem d_SD_left_1 : decode b_SD_left 1 = .ok (.getfield 30, 3) := by decide +kernel
theorem d_SD_left_4 : decode b_SD_left 4 = .ok (.iload_n 1, 1) := by decide +kernel
theorem d_SD_left_5 : decode b_SD_left 5 = .ok (.invokevirtual 136, 3) := by decide +kernel
theorem d_SD_left_8 : decode b_SD_left 8 = .ok (.istore_n 2, 1) := by decide +kernel
theorem d_SD_left_9 : decode b_SD_left 9 = .ok (.iload_n 2, 1) := by decide +kernel
theorem d_SD_left_10 : decode b_SD_left 10 = .ok (.ifCond .ge 13, 3) := by decide +kernel
theorem d_SD_left_13 : decode b_SD_left 13 = .ok (.new 139, 3) := by decide +kernel
theorem d_SD_left_16 : decode b_SD_left 16 = .ok (.dup, 1) := by decide +kernel
theorem d_SD_left_17 : decode b_SD_left 17 = .ok (.ldc 141, 2) := by decide +kernel
theorem d_SD_left_19 : decode b_SD_left 19 = .ok (.invokespecial 143, 3) := by decide +kernel
theorem d_SD_left_22 : decode b_SD_left 22 = .ok (.athrow, 1) := by decide +kernel
theorem d_SD_left_23 : decode b_SD_left 23 = .ok (.iload_n 2, 1) := by decide +kernel
theorem d_SD_left_24 : decode b_SD_left 24 = .ok (.ireturn, 1) := by decide +kernel
theorem d_SD_pieces_0 : decode b_SD_pieces 0 = .ok (.aload_n 0, 1) := by decide +kernel
theorem d_SD_pieces_1 : decode b_SD_pieces 1 = .ok (.iload_n 1, 1) := by decide +kernel
theorem d_SD_pieces_2 : decode b_SD_pieces 2 = .ok (.invokevirtual 144, 3) := by decide +kernel
theorem d_SD_pieces_5 : decode b_SD_pieces 5 = .ok (.aload_n 0, 1) := by decide +kernel
theorem d_SD_pieces_6 : decode b_SD_pieces 6 = .ok (.getfield 26, 3) := by decide +kernel
theorem d_SD_pieces_9 : decode b_SD_pieces 9 = .ok (.iload_n 2, 1) := by decide +kernel
theorem d_SD_pieces_10 : decode b_SD_pieces 10 = .ok (.invokevirtual 147, 3) := by decide +kernel
theorem d_SD_pieces_13 : decode b_SD_pieces 13 = .ok (.ifCond .ne 13, 3) := by decide +kernel
theorem d_SD_pieces_16 : decode b_SD_pieces 16 = .ok (.new 139, 3) := by decide +kernel
theorem d_SD_pieces_19 : decode b_SD_pieces 19 = .ok (.dup, 1) := by decide +kernel
theorem d_SD_pieces_20 : decode b_SD_pieces 20 = .ok (.ldc 150, 2) := by decide +kernel
theorem d_SD_pieces_22 : decode b_SD_pieces 22 = .ok (.invokespecial 143, 3) := by decide +kernel
theorem d_SD_pieces_25 : decode b_SD_pieces 25 = .ok (.athrow, 1) := by decide +kernel
theorem d_SD_pieces_26 : decode b_SD_pieces 26 = .ok (.aload_n 0, 1) := by decide +kernel
theorem d_SD_pieces_27 : decode b_SD_pieces 27 = .ok (.getfield 39, 3) := by decide +kernel
theorem d_SD_pieces_30 : decode b_SD_pieces 30 = .ok (.invokevirtual 120, 3) := by decide +kernel
theorem d_SD_pieces_33 : decode b_SD_pieces 33 = .ok (.pop, 1) := by decide +kernel
theorem d_SD_pieces_34 : decode b_SD_pieces 34 = .ok (.aload_n 0, 1) := by decide +kernel
theorem d_SD_pieces_35 : decode b_SD_pieces 35 = .ok (.getfield 39, 3) := by decide +kernel
theorem d_SD_pieces_38 : decode b_SD_pieces 38 = .ok (.iload_n 1, 1) := by decide +kernel
theorem d_SD_pieces_39 : decode b_SD_pieces 39 = .ok (.iload_n 2, 1) := by decide +kernel
theorem d_SD_pieces_40 : decode b_SD_pieces 40 = .ok (.invokevirtual 152, 3) := by decide +kernel
theorem d_SD_pieces_43 : decode b_SD_pieces 43 = .ok (.ireturn, 1) := by decide +kernel
theorem d_SD_refuseMissingPlace_0 : decode b_SD_refuseMissingPlace 0 = .ok (.aload_n 0, 1) := by decide +kernel
theorem d_SD_refuseMissingPlace_1 : decode b_SD_refuseMissingPlace 1 = .ok (.getfield 26, 3) := by decide +kernel
theorem d_SD_refuseMissingPlace_4 : decode b_SD_refuseMissingPlace 4 = .ok (.iload_n 1, 1) := by decide +kernel
theorem d_SD_refuseMissingPlace_5 : decode b_SD_refuseMissingPlace 5 = .ok (.invokevirtual 188, 3) := by decide +kernel
theorem d_SD_refuseMissingPlace_8 : decode b_SD_refuseMissingPlace 8 = .ok (.ifCond .ne 13, 3) := by decide +kernel
theorem d_SD_refuseMissingPlace_11 : decode b_SD_refuseMissingPlace 11 = .ok (.new 139, 3) := by decide +kernel
theorem d_SD_refuseMissingPlace_14 : decode b_SD_refuseMissingPlace 14 = .ok (.dup, 1) := by decide +kernel
theorem d_SD_refuseMissingPlace_15 : decode b_SD_refuseMissingPlace 15 = .ok (.ldc 191, 2) := by decide +kernel
theorem d_SD_refuseMissingPlace_17 : decode b_SD_refuseMissingPlace 17 = .ok (.invokespecial 143, 3) := by decide +kernel
theorem d_SD_refuseMissingPlace_20 : decode b_SD_refuseMissingPlace 20 = .ok (.athrow, 1) := by decide +kernel
theorem d_SD_refuseMissingPlace_21 : decode b_SD_refuseMissingPlace 21 = .ok (.return_, 1) := by decide +kernel
theorem d_SD_most_0 : decode b_SD_most 0 = .ok (.aload_n 0, 1) := by decide +kernel
theorem d_SD_most_1 : decode b_SD_most 1 = .ok (.iload_n 1, 1) := by decide +kernel
theorem d_SD_most_2 : decode b_SD_most 2 = .ok (.invokevirtual 144, 3) := by decide +kernel
theorem d_SD_most_5 : decode b_SD_most 5 = .ok (.aload_n 0, 1) := by decide +kernel
theorem d_SD_most_6 : decode b_SD_most 6 = .ok (.getfield 39, 3) := by decide +kernel
theorem d_SD_most_9 : decode b_SD_most 9 = .ok (.invokevirtual 120, 3) := by decide +kernel
theorem d_SD_most_12 : decode b_SD_most 12 = .ok (.pop, 1) := by decide +kernel
theorem d_SD_most_13 : decode b_SD_most 13 = .ok (.aload_n 0, 1) := by decide +kernel
theorem d_SD_most_14 : decode b_SD_most 14 = .ok (.getfield 39, 3) := by decide +kernel
theorem d_SD_most_17 : decode b_SD_most 17 = .ok (.iload_n 1, 1) := by decide +kernel
theorem d_SD_most_18 : decode b_SD_most 18 = .ok (.invokevirtual 156, 3) := by decide +kernel
theorem d_SD_most_21 : decode b_SD_most 21 = .ok (.ireturn, 1) := by decide +kernel
theorem d_SD_same_0 : decode b_SD_same 0 = .ok (.aload_n 0, 1) := by decide +kernel
theorem d_SD_same_1 : decode b_SD_same 1 = .ok (.iload_n 3, 1) := by decide +kernel
theorem d_SD_same_2 : decode b_SD_same 2 = .ok (.invokevirtual 53, 3) := by decide +kernel
theorem d_SD_same_5 : decode b_SD_same 5 = .ok (.aload_n 0, 1) := by decide +kernel
theorem d_SD_same_6 : decode b_SD_same 6 = .ok (.getfield 43, 3) := by decide +kernel
theorem d_SD_same_9 : decode b_SD_same 9 = .ok (.lload_n 1, 1) := by decide +kernel
theorem d_SD_same_10 : decode b_SD_same 10 = .ok (.invokevirtual 68, 3) := by decide +kernel
theorem d_SD_same_13 : decode b_SD_same 13 = .ok (.aload_n 0, 1) := by decide +kernel
theorem d_SD_same_14 : decode b_SD_same 14 = .ok (.getfield 46, 3) := by decide +kernel
theorem d_SD_same_17 : decode b_SD_same 17 = .ok (.aload_n 0, 1) := by decide +kernel
theorem d_SD_same_18 : decode b_SD_same 18 = .ok (.getfield 43, 3) := by decide +kernel
theorem d_SD_same_21 : decode b_SD_same 21 = .ok (.iload_n 3, 1) := by decide +kernel
theorem d_SD_same_22 : decode b_SD_same 22 = .ok (.invokevirtual 57, 3) := by decide +kernel
theorem d_SD_same_25 : decode b_SD_same 25 = .ok (.aload_n 0, 1) := by decide +kernel
theorem d_SD_same_26 : decode b_SD_same 26 = .ok (.getfield 26, 3) := by decide +kernel
theorem d_SD_same_29 : decode b_SD_same 29 = .ok (.aload_n 0, 1) := by decide +kernel
theorem d_SD_same_30 : decode b_SD_same 30 = .ok (.getfield 46, 3) := by decide +kernel
theorem d_SD_same_33 : decode b_SD_same 33 = .ok (.invokevirtual 159, 3) := by decide +kernel
theorem d_SD_same_36 : decode b_SD_same 36 = .ok (.ireturn, 1) := by decide +kernel
theorem d_La_draw_0 : decode b_La_draw 0 = .ok (.aload_n 2, 1) := by decide +kernel
theorem d_La_draw_1 : decode b_La_draw 1 = .ok (.iconst 0, 1) := by decide +kernel
theorem d_La_draw_2 : decode b_La_draw 2 = .ok (.aload_n 0, 1) := by decide +kernel
theorem d_La_draw_3 : decode b_La_draw 3 = .ok (.iload_n 1, 1) := by decide +kernel
theorem d_La_draw_4 : decode b_La_draw 4 = .ok (.invokevirtual 7, 3) := by decide +kernel
theorem d_La_draw_7 : decode b_La_draw 7 = .ok (.i2l, 1) := by decide +kernel
theorem d_La_draw_8 : decode b_La_draw 8 = .ok (.lastore, 1) := by decide +kernel
theorem d_La_draw_9 : decode b_La_draw 9 = .ok (.goto 6, 3) := by decide +kernel
theorem d_La_draw_12 : decode b_La_draw 12 = .ok (.astore_n 3, 1) := by decide +kernel
theorem d_La_draw_13 : decode b_La_draw 13 = .ok (.iconst 1, 1) := by decide +kernel
theorem d_La_draw_14 : decode b_La_draw 14 = .ok (.ireturn, 1) := by decide +kernel
theorem d_La_draw_15 : decode b_La_draw 15 = .ok (.iconst 0, 1) := by decide +kernel
theorem d_La_draw_16 : decode b_La_draw 16 = .ok (.ireturn, 1) := by decide +kernel
theorem d_La_part_0 : decode b_La_part 0 = .ok (.aload_n 3, 1) := by decide +kernel
theorem d_La_part_1 : decode b_La_part 1 = .ok (.iconst 0, 1) := by decide +kernel
theorem d_La_part_2 : decode b_La_part 2 = .ok (.aload_n 0, 1) := by decide +kernel
theorem d_La_part_3 : decode b_La_part 3 = .ok (.iload_n 1, 1) := by decide +kernel
theorem d_La_part_4 : decode b_La_part 4 = .ok (.iload_n 2, 1) := by decide +kernel
theorem d_La_part_5 : decode b_La_part 5 = .ok (.invokevirtual 15, 3) := by decide +kernel
theorem d_La_part_8 : decode b_La_part 8 = .ok (.i2l, 1) := by decide +kernel
theorem d_La_part_9 : decode b_La_part 9 = .ok (.lastore, 1) := by decide +kernel
theorem d_La_part_10 : decode b_La_part 10 = .ok (.goto 11, 3) := by decide +kernel
theorem d_La_part_13 : decode b_La_part 13 = .ok (.astore 4, 2) := by decide +kernel
theorem d_La_part_15 : decode b_La_part 15 = .ok (.iconst 1, 1) := by decide +kernel
theorem d_La_part_16 : decode b_La_part 16 = .ok (.ireturn, 1) := by decide +kernel
theorem d_La_part_17 : decode b_La_part 17 = .ok (.astore 4, 2) := by decide +kernel
theorem d_La_part_19 : decode b_La_part 19 = .ok (.iconst 2, 1) := by decide +kernel
theorem d_La_part_20 : decode b_La_part 20 = .ok (.ireturn, 1) := by decide +kernel
theorem d_La_part_21 : decode b_La_part 21 = .ok (.iconst 0, 1) := by decide +kernel
theorem d_La_part_22 : decode b_La_part 22 = .ok (.ireturn, 1) := by decide +kernel
theorem d_La_leave_0 : decode b_La_leave 0 = .ok (.aload_n 3, 1) := by decide +kernel
theorem d_La_leave_1 : decode b_La_leave 1 = .ok (.iconst 0, 1) := by decide +kernel
theorem d_La_leave_2 : decode b_La_leave 2 = .ok (.aload_n 0, 1) := by decide +kernel
theorem d_La_leave_3 : decode b_La_leave 3 = .ok (.iload_n 1, 1) := by decide +kernel
theorem d_La_leave_4 : decode b_La_leave 4 = .ok (.iload_n 2, 1) := by decide +kernel
theorem d_La_leave_5 : decode b_La_leave 5 = .ok (.invokevirtual 21, 3) := by decide +kernel
theorem d_La_leave_8 : decode b_La_leave 8 = .ok (.ifCond .eq 7, 3) := by decide +kernel
theorem d_La_leave_11 : decode b_La_leave 11 = .ok (.lconst 1, 1) := by decide +kernel
theorem d_La_leave_12 : decode b_La_leave 12 = .ok (.goto 4, 3) := by decide +kernel
theorem d_La_leave_15 : decode b_La_leave 15 = .ok (.lconst 0, 1) := by decide +kernel
theorem d_La_leave_16 : decode b_La_leave 16 = .ok (.lastore, 1) := by decide +kernel
theorem d_La_leave_17 : decode b_La_leave 17 = .ok (.goto 11, 3) := by decide +kernel
theorem d_La_leave_20 : decode b_La_leave 20 = .ok (.astore 4, 2) := by decide +kernel
theorem d_La_leave_22 : decode b_La_leave 22 = .ok (.iconst 1, 1) := by decide +kernel
theorem d_La_leave_23 : decode b_La_leave 23 = .ok (.ireturn, 1) := by decide +kernel
theorem d_La_leave_24 : decode b_La_leave 24 = .ok (.astore 4, 2) := by decide +kernel
theorem d_La_leave_26 : decode b_La_leave 26 = .ok (.iconst 2, 1) := by decide +kernel
theorem d_La_leave_27 : decode b_La_leave 27 = .ok (.ireturn, 1) := by decide +kernel
theorem d_La_leave_28 : decode b_La_leave 28 = .ok (.iconst 0, 1) := by decide +kernel
theorem d_La_leave_29 : decode b_La_leave 29 = .ok (.ireturn, 1) := by decide +kernel
theorem d_La_verdict_0 : decode b_La_verdict 0 = .ok (.aload_n 2, 1) := by decide +kernel
theorem d_La_verdict_1 : decode b_La_verdict 1 = .ok (.iconst 0, 1) := by decide +kernel
theorem d_La_verdict_2 : decode b_La_verdict 2 = .ok (.aload_n 0, 1) := by decide +kernel
theorem d_La_verdict_3 : decode b_La_verdict 3 = .ok (.iload_n 1, 1) := by decide +kernel
theorem d_La_verdict_4 : decode b_La_verdict 4 = .ok (.invokevirtual 27, 3) := by decide +kernel
theorem d_La_verdict_7 : decode b_La_verdict 7 = .ok (.ifCond .eq 7, 3) := by decide +kernel
theorem d_La_verdict_10 : decode b_La_verdict 10 = .ok (.lconst 1, 1) := by decide +kernel
theorem d_La_verdict_11 : decode b_La_verdict 11 = .ok (.goto 4, 3) := by decide +kernel
theorem d_La_verdict_14 : decode b_La_verdict 14 = .ok (.lconst 0, 1) := by decide +kernel
theorem d_La_verdict_15 : decode b_La_verdict 15 = .ok (.lastore, 1) := by decide +kernel
theorem d_La_verdict_16 : decode b_La_verdict 16 = .ok (.goto 6, 3) := by decide +kernel
theorem d_La_verdict_19 : decode b_La_verdict 19 = .ok (.astore_n 3, 1) := by decide +kernel
theorem d_La_verdict_20 : decode b_La_verdict 20 = .ok (.iconst 1, 1) := by decide +kernel
theorem d_La_verdict_21 : decode b_La_verdict 21 = .ok (.ireturn, 1) := by decide +kernel
theorem d_La_verdict_22 : decode b_La_verdict 22 = .ok (.iconst 0, 1) := by decide +kernel
theorem d_La_verdict_23 : decode b_La_verdict 23 = .ok (.ireturn, 1) := by decide +kernel
theorem d_La_shorter_0 : decode b_La_shorter 0 = .ok (.aload_n 1, 1) := by decide +kernel
theorem d_La_shorter_1 : decode b_La_shorter 1 = .ok (.iconst 0, 1) := by decide +kernel
theorem d_La_shorter_2 : decode b_La_shorter 2 = .ok (.aload_n 0, 1) := by decide +kernel
theorem d_La_shorter_3 : decode b_La_shorter 3 = .ok (.invokevirtual 31, 3) := by decide +kernel
theorem d_La_shorter_6 : decode b_La_shorter 6 = .ok (.i2l, 1) := by decide +kernel
theorem d_La_shorter_7 : decode b_La_shorter 7 = .ok (.lastore, 1) := by decide +kernel
theorem d_La_shorter_8 : decode b_La_shorter 8 = .ok (.goto 6, 3) := by decide +kernel
theorem d_La_shorter_11 : decode b_La_shorter 11 = .ok (.astore_n 2, 1) := by decide +kernel
theorem d_La_shorter_12 : decode b_La_shorter 12 = .ok (.iconst 1, 1) := by decide +kernel
theorem d_La_shorter_13 : decode b_La_shorter 13 = .ok (.ireturn, 1) := by decide +kernel
theorem d_La_shorter_14 : decode b_La_shorter 14 = .ok (.iconst 0, 1) := by decide +kernel
theorem d_La_shorter_15 : decode b_La_shorter 15 = .ok (.ireturn, 1) := by decide +kernel
theorem d_La_left_0 : decode b_La_left 0 = .ok (.aload_n 2, 1) := by decide +kernel
theorem d_La_left_1 : decode b_La_left 1 = .ok (.iconst 0, 1) := by decide +kernel
theorem d_La_left_2 : decode b_La_left 2 = .ok (.aload_n 0, 1) := by decide +kernel
theorem d_La_left_3 : decode b_La_left 3 = .ok (.iload_n 1, 1) := by decide +kernel
theorem d_La_left_4 : decode b_La_left 4 = .ok (.invokevirtual 35, 3) := by decide +kernel
theorem d_La_left_7 : decode b_La_left 7 = .ok (.i2l, 1) := by decide +kernel
theorem d_La_left_8 : decode b_La_left 8 = .ok (.lastore, 1) := by decide +kernel
theorem d_La_left_9 : decode b_La_left 9 = .ok (.goto 6, 3) := by decide +kernel
theorem d_La_left_12 : decode b_La_left 12 = .ok (.astore_n 3, 1) := by decide +kernel
theorem d_La_left_13 : decode b_La_left 13 = .ok (.iconst 1, 1) := by decide +kernel
theorem d_La_left_14 : decode b_La_left 14 = .ok (.ireturn, 1) := by decide +kernel
theorem d_La_left_15 : decode b_La_left 15 = .ok (.iconst 0, 1) := by decide +kernel
theorem d_La_left_16 : decode b_La_left 16 = .ok (.ireturn, 1) := by decide +kernel
theorem d_La_pieces_0 : decode b_La_pieces 0 = .ok (.aload_n 3, 1) := by decide +kernel
theorem d_La_pieces_1 : decode b_La_pieces 1 = .ok (.iconst 0, 1) := by decide +kernel
theorem d_La_pieces_2 : decode b_La_pieces 2 = .ok (.aload_n 0, 1) := by decide +kernel
theorem d_La_pieces_3 : decode b_La_pieces 3 = .ok (.iload_n 1, 1) := by decide +kernel
theorem d_La_pieces_4 : decode b_La_pieces 4 = .ok (.iload_n 2, 1) := by decide +kernel
theorem d_La_pieces_5 : decode b_La_pieces 5 = .ok (.invokevirtual 38, 3) := by decide +kernel
theorem d_La_pieces_8 : decode b_La_pieces 8 = .ok (.i2l, 1) := by decide +kernel
theorem d_La_pieces_9 : decode b_La_pieces 9 = .ok (.lastore, 1) := by decide +kernel
theorem d_La_pieces_10 : decode b_La_pieces 10 = .ok (.goto 7, 3) := by decide +kernel
theorem d_La_pieces_13 : decode b_La_pieces 13 = .ok (.astore 4, 2) := by decide +kernel
theorem d_La_pieces_15 : decode b_La_pieces 15 = .ok (.iconst 1, 1) := by decide +kernel
theorem d_La_pieces_16 : decode b_La_pieces 16 = .ok (.ireturn, 1) := by decide +kernel
theorem d_La_pieces_17 : decode b_La_pieces 17 = .ok (.iconst 0, 1) := by decide +kernel
theorem d_La_pieces_18 : decode b_La_pieces 18 = .ok (.ireturn, 1) := by decide +kernel
theorem d_La_most_0 : decode b_La_most 0 = .ok (.aload_n 2, 1) := by decide +kernel
theorem d_La_most_1 : decode b_La_most 1 = .ok (.iconst 0, 1) := by decide +kernel
theorem d_La_most_2 : decode b_La_most 2 = .ok (.aload_n 0, 1) := by decide +kernel
theorem d_La_most_3 : decode b_La_most 3 = .ok (.iload_n 1, 1) := by decide +kernel
theorem d_La_most_4 : decode b_La_most 4 = .ok (.invokevirtual 41, 3) := by decide +kernel
theorem d_La_most_7 : decode b_La_most 7 = .ok (.i2l, 1) := by decide +kernel
theorem d_La_most_8 : decode b_La_most 8 = .ok (.lastore, 1) := by decide +kernel
theorem d_La_most_9 : decode b_La_most 9 = .ok (.goto 6, 3) := by decide +kernel
theorem d_La_most_12 : decode b_La_most 12 = .ok (.astore_n 3, 1) := by decide +kernel
theorem d_La_most_13 : decode b_La_most 13 = .ok (.iconst 1, 1) := by decide +kernel
theorem d_La_most_14 : decode b_La_most 14 = .ok (.ireturn, 1) := by decide +kernel
theorem d_La_most_15 : decode b_La_most 15 = .ok (.iconst 0, 1) := by decide +kernel
theorem d_La_most_16 : decode b_La_most 16 = .ok (.ireturn, 1) := by decide +kernel
theorem d_La_same_0 : decode b_La_same 0 = .ok (.aload 4, 2) := by decide +kernel
theorem d_La_same_2 : decode b_La_same 2 = .ok (.iconst 0, 1) := by decide +kernel
theorem d_La_same_3 : decode b_La_same 3 = .ok (.aload_n 0, 1) := by decide +kernel
theorem d_La_same_4 : decode b_La_same 4 = .ok (.lload_n 1, 1) := by decide +kernel
theorem d_La_same_5 : decode b_La_same 5 = .ok (.iload_n 3, 1) := by decide +kernel
theorem d_La_same_6 : decode b_La_same 6 = .ok (.invokevirtual 44, 3) := by decide +kernel
theorem d_La_same_9 : decode b_La_same 9 = .ok (.ifCond .eq 7, 3) := by decide +kernel
theorem d_La_same_12 : decode b_La_same 12 = .ok (.lconst 1, 1) := by decide +kernel
theorem d_La_same_13 : decode b_La_same 13 = .ok (.goto 4, 3) := by decide +kernel
theorem d_La_same_16 : decode b_La_same 16 = .ok (.lconst 0, 1) := by decide +kernel
theorem d_La_same_17 : decode b_La_same 17 = .ok (.lastore, 1) := by decide +kernel
theorem d_La_same_18 : decode b_La_same 18 = .ok (.goto 7, 3) := by decide +kernel
theorem d_La_same_21 : decode b_La_same 21 = .ok (.astore 5, 2) := by decide +kernel
theorem d_La_same_23 : decode b_La_same 23 = .ok (.iconst 1, 1) := by decide +kernel
theorem d_La_same_24 : decode b_La_same 24 = .ok (.ireturn, 1) := by decide +kernel
theorem d_La_same_25 : decode b_La_same 25 = .ok (.iconst 0, 1) := by decide +kernel
theorem d_La_same_26 : decode b_La_same 26 = .ok (.ireturn, 1) := by decide +kernel
