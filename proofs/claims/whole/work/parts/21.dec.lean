theorem d_St_tell_0 : decode b_St_tell 0 = .ok (.aload_n 0, 1) := by decide +kernel
theorem d_St_tell_1 : decode b_St_tell 1 = .ok (.invokevirtual 34, 3) := by decide +kernel
theorem d_St_tell_4 : decode b_St_tell 4 = .ok (.iconst (-1), 1) := by decide +kernel
theorem d_St_tell_5 : decode b_St_tell 5 = .ok (.istore_n 1, 1) := by decide +kernel
theorem d_St_tell_6 : decode b_St_tell 6 = .ok (.iconst 0, 1) := by decide +kernel
theorem d_St_tell_7 : decode b_St_tell 7 = .ok (.istore_n 2, 1) := by decide +kernel
theorem d_St_tell_8 : decode b_St_tell 8 = .ok (.iload_n 2, 1) := by decide +kernel
theorem d_St_tell_9 : decode b_St_tell 9 = .ok (.aload_n 0, 1) := by decide +kernel
theorem d_St_tell_10 : decode b_St_tell 10 = .ok (.getfield 9, 3) := by decide +kernel
theorem d_St_tell_13 : decode b_St_tell 13 = .ok (.invokevirtual 37, 3) := by decide +kernel
theorem d_St_tell_16 : decode b_St_tell 16 = .ok (.if_icmp .ge 45, 3) := by decide +kernel
theorem d_St_tell_19 : decode b_St_tell 19 = .ok (.aload_n 0, 1) := by decide +kernel
theorem d_St_tell_20 : decode b_St_tell 20 = .ok (.getfield 15, 3) := by decide +kernel
theorem d_St_tell_23 : decode b_St_tell 23 = .ok (.iload_n 2, 1) := by decide +kernel
theorem d_St_tell_24 : decode b_St_tell 24 = .ok (.invokevirtual 43, 3) := by decide +kernel
theorem d_St_tell_27 : decode b_St_tell 27 = .ok (.ifCond .eq 28, 3) := by decide +kernel
theorem d_St_tell_30 : decode b_St_tell 30 = .ok (.aload_n 0, 1) := by decide +kernel
theorem d_St_tell_31 : decode b_St_tell 31 = .ok (.iload_n 2, 1) := by decide +kernel
theorem d_St_tell_32 : decode b_St_tell 32 = .ok (.invokevirtual 49, 3) := by decide +kernel
theorem d_St_tell_35 : decode b_St_tell 35 = .ok (.aload_n 0, 1) := by decide +kernel
theorem d_St_tell_36 : decode b_St_tell 36 = .ok (.aload_n 0, 1) := by decide +kernel
theorem d_St_tell_37 : decode b_St_tell 37 = .ok (.getfield 9, 3) := by decide +kernel
theorem d_St_tell_40 : decode b_St_tell 40 = .ok (.iload_n 2, 1) := by decide +kernel
theorem d_St_tell_41 : decode b_St_tell 41 = .ok (.invokevirtual 53, 3) := by decide +kernel
theorem d_St_tell_44 : decode b_St_tell 44 = .ok (.invokevirtual 57, 3) := by decide +kernel
theorem d_St_tell_47 : decode b_St_tell 47 = .ok (.aload_n 0, 1) := by decide +kernel
theorem d_St_tell_48 : decode b_St_tell 48 = .ok (.iload_n 1, 1) := by decide +kernel
theorem d_St_tell_49 : decode b_St_tell 49 = .ok (.iload_n 2, 1) := by decide +kernel
theorem d_St_tell_50 : decode b_St_tell 50 = .ok (.invokevirtual 60, 3) := by decide +kernel
theorem d_St_tell_53 : decode b_St_tell 53 = .ok (.iload_n 2, 1) := by decide +kernel
theorem d_St_tell_54 : decode b_St_tell 54 = .ok (.istore_n 1, 1) := by decide +kernel
theorem d_St_tell_55 : decode b_St_tell 55 = .ok (.iinc 2 1, 3) := by decide +kernel
theorem d_St_tell_58 : decode b_St_tell 58 = .ok (.goto (-50), 3) := by decide +kernel
theorem d_St_tell_61 : decode b_St_tell 61 = .ok (.aload_n 0, 1) := by decide +kernel
theorem d_St_tell_62 : decode b_St_tell 62 = .ok (.invokevirtual 64, 3) := by decide +kernel
theorem d_St_tell_65 : decode b_St_tell 65 = .ok (.aload_n 0, 1) := by decide +kernel
theorem d_St_tell_66 : decode b_St_tell 66 = .ok (.getfield 30, 3) := by decide +kernel
theorem d_St_tell_69 : decode b_St_tell 69 = .ok (.ireturn, 1) := by decide +kernel
theorem d_St_forget_0 : decode b_St_forget 0 = .ok (.aload_n 0, 1) := by decide +kernel
theorem d_St_forget_1 : decode b_St_forget 1 = .ok (.iconst 0, 1) := by decide +kernel
theorem d_St_forget_2 : decode b_St_forget 2 = .ok (.putfield 30, 3) := by decide +kernel
theorem d_St_forget_5 : decode b_St_forget 5 = .ok (.iconst 0, 1) := by decide +kernel
theorem d_St_forget_6 : decode b_St_forget 6 = .ok (.istore_n 1, 1) := by decide +kernel
theorem d_St_forget_7 : decode b_St_forget 7 = .ok (.iload_n 1, 1) := by decide +kernel
theorem d_St_forget_8 : decode b_St_forget 8 = .ok (.bipush 36, 2) := by decide +kernel
theorem d_St_forget_10 : decode b_St_forget 10 = .ok (.if_icmp .ge 16, 3) := by decide +kernel
theorem d_St_forget_13 : decode b_St_forget 13 = .ok (.aload_n 0, 1) := by decide +kernel
theorem d_St_forget_14 : decode b_St_forget 14 = .ok (.getfield 19, 3) := by decide +kernel
theorem d_St_forget_17 : decode b_St_forget 17 = .ok (.iload_n 1, 1) := by decide +kernel
theorem d_St_forget_18 : decode b_St_forget 18 = .ok (.iconst 0, 1) := by decide +kernel
theorem d_St_forget_19 : decode b_St_forget 19 = .ok (.iastore, 1) := by decide +kernel
theorem d_St_forget_20 : decode b_St_forget 20 = .ok (.iinc 1 1, 3) := by decide +kernel
theorem d_St_forget_23 : decode b_St_forget 23 = .ok (.goto (-16), 3) := by decide +kernel
theorem d_St_forget_26 : decode b_St_forget 26 = .ok (.iconst 0, 1) := by decide +kernel
theorem d_St_forget_27 : decode b_St_forget 27 = .ok (.istore_n 1, 1) := by decide +kernel
theorem d_St_forget_28 : decode b_St_forget 28 = .ok (.iload_n 1, 1) := by decide +kernel
theorem d_St_forget_29 : decode b_St_forget 29 = .ok (.bipush 6, 2) := by decide +kernel
theorem d_St_forget_31 : decode b_St_forget 31 = .ok (.if_icmp .ge 23, 3) := by decide +kernel
theorem d_St_forget_34 : decode b_St_forget 34 = .ok (.aload_n 0, 1) := by decide +kernel
theorem d_St_forget_35 : decode b_St_forget 35 = .ok (.getfield 23, 3) := by decide +kernel
theorem d_St_forget_38 : decode b_St_forget 38 = .ok (.iload_n 1, 1) := by decide +kernel
theorem d_St_forget_39 : decode b_St_forget 39 = .ok (.iconst 0, 1) := by decide +kernel
theorem d_St_forget_40 : decode b_St_forget 40 = .ok (.iastore, 1) := by decide +kernel
theorem d_St_forget_41 : decode b_St_forget 41 = .ok (.aload_n 0, 1) := by decide +kernel
theorem d_St_forget_42 : decode b_St_forget 42 = .ok (.getfield 26, 3) := by decide +kernel
theorem d_St_forget_45 : decode b_St_forget 45 = .ok (.iload_n 1, 1) := by decide +kernel
theorem d_St_forget_46 : decode b_St_forget 46 = .ok (.iconst 0, 1) := by decide +kernel
theorem d_St_forget_47 : decode b_St_forget 47 = .ok (.bastore, 1) := by decide +kernel
theorem d_St_forget_48 : decode b_St_forget 48 = .ok (.iinc 1 1, 3) := by decide +kernel
theorem d_St_forget_51 : decode b_St_forget 51 = .ok (.goto (-23), 3) := by decide +kernel
theorem d_St_forget_54 : decode b_St_forget 54 = .ok (.return_, 1) := by decide +kernel
theorem d_Dr_partCount_0 : decode b_Dr_partCount 0 = .ok (.aload_n 0, 1) := by decide +kernel
theorem d_Dr_partCount_1 : decode b_Dr_partCount 1 = .ok (.getfield 15, 3) := by decide +kernel
theorem d_Dr_partCount_4 : decode b_Dr_partCount 4 = .ok (.ireturn, 1) := by decide +kernel
theorem d_Re_isActThatCounts_0 : decode b_Re_isActThatCounts 0 = .ok (.aload_n 0, 1) := by decide +kernel
theorem d_Re_isActThatCounts_1 : decode b_Re_isActThatCounts 1 = .ok (.iload_n 1, 1) := by decide +kernel
theorem d_Re_isActThatCounts_2 : decode b_Re_isActThatCounts 2 = .ok (.invokevirtual 25, 3) := by decide +kernel
theorem d_Re_isActThatCounts_5 : decode b_Re_isActThatCounts 5 = .ok (.ifCond .eq 56, 3) := by decide +kernel
theorem d_Re_isActThatCounts_8 : decode b_Re_isActThatCounts 8 = .ok (.aload_n 0, 1) := by decide +kernel
theorem d_Re_isActThatCounts_9 : decode b_Re_isActThatCounts 9 = .ok (.getfield 9, 3) := by decide +kernel
theorem d_Re_isActThatCounts_12 : decode b_Re_isActThatCounts 12 = .ok (.iload_n 1, 1) := by decide +kernel
theorem d_Re_isActThatCounts_13 : decode b_Re_isActThatCounts 13 = .ok (.invokevirtual 28, 3) := by decide +kernel
theorem d_Re_isActThatCounts_16 : decode b_Re_isActThatCounts 16 = .ok (.iconst 2, 1) := by decide +kernel
theorem d_Re_isActThatCounts_17 : decode b_Re_isActThatCounts 17 = .ok (.if_icmp .ne 44, 3) := by decide +kernel
theorem d_Re_isActThatCounts_20 : decode b_Re_isActThatCounts 20 = .ok (.aload_n 0, 1) := by decide +kernel
theorem d_Re_isActThatCounts_21 : decode b_Re_isActThatCounts 21 = .ok (.aload_n 0, 1) := by decide +kernel
theorem d_Re_isActThatCounts_22 : decode b_Re_isActThatCounts 22 = .ok (.getfield 9, 3) := by decide +kernel
theorem d_Re_isActThatCounts_25 : decode b_Re_isActThatCounts 25 = .ok (.iload_n 1, 1) := by decide +kernel
theorem d_Re_isActThatCounts_26 : decode b_Re_isActThatCounts 26 = .ok (.invokevirtual 32, 3) := by decide +kernel
theorem d_Re_isActThatCounts_29 : decode b_Re_isActThatCounts 29 = .ok (.invokevirtual 25, 3) := by decide +kernel
theorem d_Re_isActThatCounts_32 : decode b_Re_isActThatCounts 32 = .ok (.ifCond .eq 29, 3) := by decide +kernel
theorem d_Re_isActThatCounts_35 : decode b_Re_isActThatCounts 35 = .ok (.aload_n 0, 1) := by decide +kernel
theorem d_Re_isActThatCounts_36 : decode b_Re_isActThatCounts 36 = .ok (.aload_n 0, 1) := by decide +kernel
theorem d_Re_isActThatCounts_37 : decode b_Re_isActThatCounts 37 = .ok (.getfield 9, 3) := by decide +kernel
theorem d_Re_isActThatCounts_40 : decode b_Re_isActThatCounts 40 = .ok (.aload_n 0, 1) := by decide +kernel
theorem d_Re_isActThatCounts_41 : decode b_Re_isActThatCounts 41 = .ok (.getfield 9, 3) := by decide +kernel
theorem d_Re_isActThatCounts_44 : decode b_Re_isActThatCounts 44 = .ok (.iload_n 1, 1) := by decide +kernel
theorem d_Re_isActThatCounts_45 : decode b_Re_isActThatCounts 45 = .ok (.invokevirtual 35, 3) := by decide +kernel
theorem d_Re_isActThatCounts_48 : decode b_Re_isActThatCounts 48 = .ok (.invokevirtual 38, 3) := by decide +kernel
theorem d_Re_isActThatCounts_51 : decode b_Re_isActThatCounts 51 = .ok (.invokevirtual 25, 3) := by decide +kernel
theorem d_Re_isActThatCounts_54 : decode b_Re_isActThatCounts 54 = .ok (.ifCond .eq 7, 3) := by decide +kernel
theorem d_Re_isActThatCounts_57 : decode b_Re_isActThatCounts 57 = .ok (.iconst 1, 1) := by decide +kernel
theorem d_Re_isActThatCounts_58 : decode b_Re_isActThatCounts 58 = .ok (.goto 4, 3) := by decide +kernel
theorem d_Re_isActThatCounts_61 : decode b_Re_isActThatCounts 61 = .ok (.iconst 0, 1) := by decide +kernel
theorem d_Re_isActThatCounts_62 : decode b_Re_isActThatCounts 62 = .ok (.ireturn, 1) := by decide +kernel
theorem d_Re_isLeft_0 : decode b_Re_isLeft 0 = .ok (.aload_n 0, 1) := by decide +kernel
theorem d_Re_isLeft_1 : decode b_Re_isLeft 1 = .ok (.getfield 9, 3) := by decide +kernel
theorem d_Re_isLeft_4 : decode b_Re_isLeft 4 = .ok (.iload_n 1, 1) := by decide +kernel
theorem d_Re_isLeft_5 : decode b_Re_isLeft 5 = .ok (.invokevirtual 19, 3) := by decide +kernel
theorem d_Re_isLeft_8 : decode b_Re_isLeft 8 = .ok (.ifCond .eq 16, 3) := by decide +kernel
theorem d_Re_isLeft_11 : decode b_Re_isLeft 11 = .ok (.aload_n 0, 1) := by decide +kernel
theorem d_Re_isLeft_12 : decode b_Re_isLeft 12 = .ok (.getfield 15, 3) := by decide +kernel
theorem d_Re_isLeft_15 : decode b_Re_isLeft 15 = .ok (.iload_n 1, 1) := by decide +kernel
theorem d_Re_isLeft_16 : decode b_Re_isLeft 16 = .ok (.baload, 1) := by decide +kernel
theorem d_Re_isLeft_17 : decode b_Re_isLeft 17 = .ok (.ifCond .ne 7, 3) := by decide +kernel
theorem d_Re_isLeft_20 : decode b_Re_isLeft 20 = .ok (.iconst 1, 1) := by decide +kernel
theorem d_Re_isLeft_21 : decode b_Re_isLeft 21 = .ok (.goto 4, 3) := by decide +kernel
theorem d_Re_isLeft_24 : decode b_Re_isLeft 24 = .ok (.iconst 0, 1) := by decide +kernel
theorem d_Re_isLeft_25 : decode b_Re_isLeft 25 = .ok (.ireturn, 1) := by decide +kernel
theorem d_Dr_has_0 : decode b_Dr_has 0 = .ok (.iload_n 1, 1) := by decide +kernel
theorem d_Dr_has_1 : decode b_Dr_has 1 = .ok (.ifCond .lt 21, 3) := by decide +kernel
theorem d_Dr_has_4 : decode b_Dr_has 4 = .ok (.iload_n 1, 1) := by decide +kernel
theorem d_Dr_has_5 : decode b_Dr_has 5 = .ok (.aload_n 0, 1) := by decide +kernel
theorem d_Dr_has_6 : decode b_Dr_has 6 = .ok (.getfield 15, 3) := by decide +kernel
theorem d_Dr_has_9 : decode b_Dr_has 9 = .ok (.if_icmp .ge 13, 3) := by decide +kernel
theorem d_Dr_has_12 : decode b_Dr_has 12 = .ok (.iload_n 1, 1) := by decide +kernel
theorem d_Dr_has_13 : decode b_Dr_has 13 = .ok (.bipush 30, 2) := by decide +kernel
theorem d_Dr_has_15 : decode b_Dr_has 15 = .ok (.if_icmp .ge 7, 3) := by decide +kernel
theorem d_Dr_has_18 : decode b_Dr_has 18 = .ok (.iconst 1, 1) := by decide +kernel
theorem d_Dr_has_19 : decode b_Dr_has 19 = .ok (.goto 4, 3) := by decide +kernel
theorem d_Dr_has_22 : decode b_Dr_has 22 = .ok (.iconst 0, 1) := by decide +kernel
theorem d_Dr_has_23 : decode b_Dr_has 23 = .ok (.ireturn, 1) := by decide +kernel
theorem d_Dr_kindOf_0 : decode b_Dr_kindOf 0 = .ok (.iload_n 1, 1) := by decide +kernel
theorem d_Dr_kindOf_1 : decode b_Dr_kindOf 1 = .ok (.aload_n 0, 1) := by decide +kernel
theorem d_Dr_kindOf_2 : decode b_Dr_kindOf 2 = .ok (.getfield 18, 3) := by decide +kernel
theorem d_Dr_kindOf_5 : decode b_Dr_kindOf 5 = .ok (.if_icmp .ge 5, 3) := by decide +kernel
theorem d_Dr_kindOf_8 : decode b_Dr_kindOf 8 = .ok (.iconst 0, 1) := by decide +kernel
theorem d_Dr_kindOf_9 : decode b_Dr_kindOf 9 = .ok (.ireturn, 1) := by decide +kernel
theorem d_Dr_kindOf_10 : decode b_Dr_kindOf 10 = .ok (.iload_n 1, 1) := by decide +kernel
theorem d_Dr_kindOf_11 : decode b_Dr_kindOf 11 = .ok (.aload_n 0, 1) := by decide +kernel
theorem d_Dr_kindOf_12 : decode b_Dr_kindOf 12 = .ok (.getfield 18, 3) := by decide +kernel
theorem d_Dr_kindOf_15 : decode b_Dr_kindOf 15 = .ok (.aload_n 0, 1) := by decide +kernel
theorem d_Dr_kindOf_16 : decode b_Dr_kindOf 16 = .ok (.getfield 21, 3) := by decide +kernel
theorem d_Dr_kindOf_19 : decode b_Dr_kindOf 19 = .ok (.iadd, 1) := by decide +kernel
theorem d_Dr_kindOf_20 : decode b_Dr_kindOf 20 = .ok (.if_icmp .ge 7, 3) := by decide +kernel
theorem d_Dr_kindOf_23 : decode b_Dr_kindOf 23 = .ok (.iconst 1, 1) := by decide +kernel
theorem d_Dr_kindOf_24 : decode b_Dr_kindOf 24 = .ok (.goto 4, 3) := by decide +kernel
theorem d_Dr_kindOf_27 : decode b_Dr_kindOf 27 = .ok (.iconst 2, 1) := by decide +kernel
theorem d_Dr_kindOf_28 : decode b_Dr_kindOf 28 = .ok (.ireturn, 1) := by decide +kernel
theorem d_Dr_placeOf_0 : decode b_Dr_placeOf 0 = .ok (.aload_n 0, 1) := by decide +kernel
theorem d_Dr_placeOf_1 : decode b_Dr_placeOf 1 = .ok (.iload_n 1, 1) := by decide +kernel
theorem d_Dr_placeOf_2 : decode b_Dr_placeOf 2 = .ok (.invokevirtual 66, 3) := by decide +kernel
theorem d_Dr_placeOf_5 : decode b_Dr_placeOf 5 = .ok (.ifCond .eq 12, 3) := by decide +kernel
theorem d_Dr_placeOf_8 : decode b_Dr_placeOf 8 = .ok (.aload_n 0, 1) := by decide +kernel
theorem d_Dr_placeOf_9 : decode b_Dr_placeOf 9 = .ok (.getfield 28, 3) := by decide +kernel
theorem d_Dr_placeOf_12 : decode b_Dr_placeOf 12 = .ok (.iload_n 1, 1) := by decide +kernel
theorem d_Dr_placeOf_13 : decode b_Dr_placeOf 13 = .ok (.iaload, 1) := by decide +kernel
theorem d_Dr_placeOf_14 : decode b_Dr_placeOf 14 = .ok (.goto 4, 3) := by decide +kernel
theorem d_Dr_placeOf_17 : decode b_Dr_placeOf 17 = .ok (.iconst (-1), 1) := by decide +kernel
theorem d_Dr_placeOf_18 : decode b_Dr_placeOf 18 = .ok (.ireturn, 1) := by decide +kernel
theorem d_Dr_goodOf_0 : decode b_Dr_goodOf 0 = .ok (.aload_n 0, 1) := by decide +kernel
theorem d_Dr_goodOf_1 : decode b_Dr_goodOf 1 = .ok (.iload_n 1, 1) := by decide +kernel
theorem d_Dr_goodOf_2 : decode b_Dr_goodOf 2 = .ok (.invokevirtual 66, 3) := by decide +kernel
theorem d_Dr_goodOf_5 : decode b_Dr_goodOf 5 = .ok (.ifCond .eq 12, 3) := by decide +kernel
theorem d_Dr_goodOf_8 : decode b_Dr_goodOf 8 = .ok (.aload_n 0, 1) := by decide +kernel
theorem d_Dr_goodOf_9 : decode b_Dr_goodOf 9 = .ok (.getfield 31, 3) := by decide +kernel
theorem d_Dr_goodOf_12 : decode b_Dr_goodOf 12 = .ok (.iload_n 1, 1) := by decide +kernel
theorem d_Dr_goodOf_13 : decode b_Dr_goodOf 13 = .ok (.iaload, 1) := by decide +kernel
theorem d_Dr_goodOf_14 : decode b_Dr_goodOf 14 = .ok (.goto 4, 3) := by decide +kernel
theorem d_Dr_goodOf_17 : decode b_Dr_goodOf 17 = .ok (.iconst (-1), 1) := by decide +kernel
theorem d_Dr_goodOf_18 : decode b_Dr_goodOf 18 = .ok (.ireturn, 1) := by decide +kernel
theorem d_Dr_partOfGood_0 : decode b_Dr_partOfGood 0 = .ok (.aload_n 0, 1) := by decide +kernel
theorem d_Dr_partOfGood_1 : decode b_Dr_partOfGood 1 = .ok (.getfield 18, 3) := by decide +kernel
theorem d_Dr_partOfGood_4 : decode b_Dr_partOfGood 4 = .ok (.iload_n 1, 1) := by decide +kernel
theorem d_Dr_partOfGood_5 : decode b_Dr_partOfGood 5 = .ok (.iadd, 1) := by decide +kernel
theorem d_Dr_partOfGood_6 : decode b_Dr_partOfGood 6 = .ok (.ireturn, 1) := by decide +kernel
theorem d_St_carryOut_0 : decode b_St_carryOut 0 = .ok (.aload_n 0, 1) := by decide +kernel
theorem d_St_carryOut_1 : decode b_St_carryOut 1 = .ok (.getfield 9, 3) := by decide +kernel
theorem d_St_carryOut_4 : decode b_St_carryOut 4 = .ok (.iload_n 1, 1) := by decide +kernel
theorem d_St_carryOut_5 : decode b_St_carryOut 5 = .ok (.invokevirtual 53, 3) := by decide +kernel
theorem d_St_carryOut_8 : decode b_St_carryOut 8 = .ok (.istore_n 2, 1) := by decide +kernel
theorem d_St_carryOut_9 : decode b_St_carryOut 9 = .ok (.aload_n 0, 1) := by decide +kernel
theorem d_St_carryOut_10 : decode b_St_carryOut 10 = .ok (.getfield 9, 3) := by decide +kernel
theorem d_St_carryOut_13 : decode b_St_carryOut 13 = .ok (.iload_n 1, 1) := by decide +kernel
theorem d_St_carryOut_14 : decode b_St_carryOut 14 = .ok (.invokevirtual 73, 3) := by decide +kernel
theorem d_St_carryOut_17 : decode b_St_carryOut 17 = .ok (.istore_n 3, 1) := by decide +kernel
theorem d_St_carryOut_18 : decode b_St_carryOut 18 = .ok (.aload_n 0, 1) := by decide +kernel
theorem d_St_carryOut_19 : decode b_St_carryOut 19 = .ok (.getfield 9, 3) := by decide +kernel
theorem d_St_carryOut_22 : decode b_St_carryOut 22 = .ok (.iload_n 2, 1) := by decide +kernel
theorem d_St_carryOut_23 : decode b_St_carryOut 23 = .ok (.invokevirtual 67, 3) := by decide +kernel
theorem d_St_carryOut_26 : decode b_St_carryOut 26 = .ok (.ifCond .eq 14, 3) := by decide +kernel
theorem d_St_carryOut_29 : decode b_St_carryOut 29 = .ok (.aload_n 0, 1) := by decide +kernel
theorem d_St_carryOut_30 : decode b_St_carryOut 30 = .ok (.getfield 9, 3) := by decide +kernel
theorem d_St_carryOut_33 : decode b_St_carryOut 33 = .ok (.iload_n 3, 1) := by decide +kernel
theorem d_St_carryOut_34 : decode b_St_carryOut 34 = .ok (.invokevirtual 70, 3) := by decide +kernel
theorem d_St_carryOut_37 : decode b_St_carryOut 37 = .ok (.ifCond .ne 4, 3) := by decide +kernel
theorem d_St_carryOut_40 : decode b_St_carryOut 40 = .ok (.return_, 1) := by decide +kernel
theorem d_St_carryOut_41 : decode b_St_carryOut 41 = .ok (.iload_n 2, 1) := by decide +kernel
theorem d_St_carryOut_42 : decode b_St_carryOut 42 = .ok (.bipush 6, 2) := by decide +kernel
theorem d_St_carryOut_44 : decode b_St_carryOut 44 = .ok (.imul, 1) := by decide +kernel
theorem d_St_carryOut_45 : decode b_St_carryOut 45 = .ok (.iload_n 3, 1) := by decide +kernel
theorem d_St_carryOut_46 : decode b_St_carryOut 46 = .ok (.iadd, 1) := by decide +kernel
theorem d_St_carryOut_47 : decode b_St_carryOut 47 = .ok (.istore 4, 2) := by decide +kernel
theorem d_St_carryOut_49 : decode b_St_carryOut 49 = .ok (.aload_n 0, 1) := by decide +kernel
theorem d_St_carryOut_50 : decode b_St_carryOut 50 = .ok (.getfield 9, 3) := by decide +kernel
theorem d_St_carryOut_53 : decode b_St_carryOut 53 = .ok (.iload_n 1, 1) := by decide +kernel
theorem d_St_carryOut_54 : decode b_St_carryOut 54 = .ok (.invokevirtual 76, 3) := by decide +kernel
theorem d_St_carryOut_57 : decode b_St_carryOut 57 = .ok (.istore 5, 2) := by decide +kernel
theorem d_St_carryOut_59 : decode b_St_carryOut 59 = .ok (.aload_n 0, 1) := by decide +kernel
theorem d_St_carryOut_60 : decode b_St_carryOut 60 = .ok (.getfield 19, 3) := by decide +kernel
theorem d_St_carryOut_63 : decode b_St_carryOut 63 = .ok (.iload 4, 2) := by decide +kernel
theorem d_St_carryOut_65 : decode b_St_carryOut 65 = .ok (.dup2, 1) := by decide +kernel
theorem d_St_carryOut_66 : decode b_St_carryOut 66 = .ok (.iaload, 1) := by decide +kernel
theorem d_St_carryOut_67 : decode b_St_carryOut 67 = .ok (.aload_n 0, 1) := by decide +kernel
theorem d_St_carryOut_68 : decode b_St_carryOut 68 = .ok (.getfield 9, 3) := by decide +kernel
theorem d_St_carryOut_71 : decode b_St_carryOut 71 = .ok (.iload_n 1, 1) := by decide +kernel
theorem d_St_carryOut_72 : decode b_St_carryOut 72 = .ok (.invokevirtual 79, 3) := by decide +kernel
theorem d_St_carryOut_75 : decode b_St_carryOut 75 = .ok (.ifCond .eq 9, 3) := by decide +kernel
theorem d_St_carryOut_78 : decode b_St_carryOut 78 = .ok (.iload 5, 2) := by decide +kernel
theorem d_St_carryOut_80 : decode b_St_carryOut 80 = .ok (.ineg, 1) := by decide +kernel
theorem d_St_carryOut_81 : decode b_St_carryOut 81 = .ok (.goto 5, 3) := by decide +kernel
theorem d_St_carryOut_84 : decode b_St_carryOut 84 = .ok (.iload 5, 2) := by decide +kernel
theorem d_St_carryOut_86 : decode b_St_carryOut 86 = .ok (.iadd, 1) := by decide +kernel
theorem d_St_carryOut_87 : decode b_St_carryOut 87 = .ok (.iastore, 1) := by decide +kernel
theorem d_St_carryOut_88 : decode b_St_carryOut 88 = .ok (.aload_n 0, 1) := by decide +kernel
theorem d_St_carryOut_89 : decode b_St_carryOut 89 = .ok (.getfield 26, 3) := by decide +kernel
theorem d_St_carryOut_92 : decode b_St_carryOut 92 = .ok (.iload_n 2, 1) := by decide +kernel
theorem d_St_carryOut_93 : decode b_St_carryOut 93 = .ok (.iconst 1, 1) := by decide +kernel
theorem d_St_carryOut_94 : decode b_St_carryOut 94 = .ok (.bastore, 1) := by decide +kernel
theorem d_St_carryOut_95 : decode b_St_carryOut 95 = .ok (.aload_n 0, 1) := by decide +kernel
theorem d_St_carryOut_96 : decode b_St_carryOut 96 = .ok (.getfield 19, 3) := by decide +kernel
theorem d_St_carryOut_99 : decode b_St_carryOut 99 = .ok (.iload 4, 2) := by decide +kernel
theorem d_St_carryOut_101 : decode b_St_carryOut 101 = .ok (.iaload, 1) := by decide +kernel
theorem d_St_carryOut_102 : decode b_St_carryOut 102 = .ok (.ifCond .ge 13, 3) := by decide +kernel
theorem d_St_carryOut_105 : decode b_St_carryOut 105 = .ok (.aload_n 0, 1) := by decide +kernel
theorem d_St_carryOut_106 : decode b_St_carryOut 106 = .ok (.dup, 1) := by decide +kernel
theorem d_St_carryOut_107 : decode b_St_carryOut 107 = .ok (.getfield 30, 3) := by decide +kernel
theorem d_St_carryOut_110 : decode b_St_carryOut 110 = .ok (.iconst 2, 1) := by decide +kernel
theorem d_St_carryOut_111 : decode b_St_carryOut 111 = .ok (.ior, 1) := by decide +kernel
theorem d_St_carryOut_112 : decode b_St_carryOut 112 = .ok (.putfield 30, 3) := by decide +kernel
theorem d_St_carryOut_115 : decode b_St_carryOut 115 = .ok (.aload_n 0, 1) := by decide +kernel
theorem d_St_carryOut_116 : decode b_St_carryOut 116 = .ok (.getfield 9, 3) := by decide +kernel
theorem d_St_carryOut_119 : decode b_St_carryOut 119 = .ok (.iload_n 1, 1) := by decide +kernel
theorem d_St_carryOut_120 : decode b_St_carryOut 120 = .ok (.invokevirtual 82, 3) := by decide +kernel
theorem d_St_carryOut_123 : decode b_St_carryOut 123 = .ok (.ifCond .eq 14, 3) := by decide +kernel
theorem d_St_carryOut_126 : decode b_St_carryOut 126 = .ok (.aload_n 0, 1) := by decide +kernel
theorem d_St_carryOut_127 : decode b_St_carryOut 127 = .ok (.dup, 1) := by decide +kernel
theorem d_St_carryOut_128 : decode b_St_carryOut 128 = .ok (.getfield 30, 3) := by decide +kernel
theorem d_St_carryOut_131 : decode b_St_carryOut 131 = .ok (.bipush 8, 2) := by decide +kernel
theorem d_St_carryOut_133 : decode b_St_carryOut 133 = .ok (.ior, 1) := by decide +kernel
theorem d_St_carryOut_134 : decode b_St_carryOut 134 = .ok (.putfield 30, 3) := by decide +kernel
theorem d_St_carryOut_137 : decode b_St_carryOut 137 = .ok (.return_, 1) := by decide +kernel
theorem d_Dr_hasPlace_0 : decode b_Dr_hasPlace 0 = .ok (.iload_n 1, 1) := by decide +kernel
theorem d_Dr_hasPlace_1 : decode b_Dr_hasPlace 1 = .ok (.ifCond .lt 21, 3) := by decide +kernel
theorem d_Dr_hasPlace_4 : decode b_Dr_hasPlace 4 = .ok (.iload_n 1, 1) := by decide +kernel
theorem d_Dr_hasPlace_5 : decode b_Dr_hasPlace 5 = .ok (.aload_n 0, 1) := by decide +kernel
theorem d_Dr_hasPlace_6 : decode b_Dr_hasPlace 6 = .ok (.getfield 18, 3) := by decide +kernel
theorem d_Dr_hasPlace_9 : decode b_Dr_hasPlace 9 = .ok (.if_icmp .ge 13, 3) := by decide +kernel
theorem d_Dr_hasPlace_12 : decode b_Dr_hasPlace 12 = .ok (.iload_n 1, 1) := by decide +kernel
theorem d_Dr_hasPlace_13 : decode b_Dr_hasPlace 13 = .ok (.bipush 6, 2) := by decide +kernel
theorem d_Dr_hasPlace_15 : decode b_Dr_hasPlace 15 = .ok (.if_icmp .ge 7, 3) := by decide +kernel
theorem d_Dr_hasPlace_18 : decode b_Dr_hasPlace 18 = .ok (.iconst 1, 1) := by decide +kernel
theorem d_Dr_hasPlace_19 : decode b_Dr_hasPlace 19 = .ok (.goto 4, 3) := by decide +kernel
theorem d_Dr_hasPlace_22 : decode b_Dr_hasPlace 22 = .ok (.iconst 0, 1) := by decide +kernel
theorem d_Dr_hasPlace_23 : decode b_Dr_hasPlace 23 = .ok (.ireturn, 1) := by decide +kernel
theorem d_Dr_hasGood_0 : decode b_Dr_hasGood 0 = .ok (.iload_n 1, 1) := by decide +kernel
theorem d_Dr_hasGood_1 : decode b_Dr_hasGood 1 = .ok (.ifCond .lt 21, 3) := by decide +kernel
theorem d_Dr_hasGood_4 : decode b_Dr_hasGood 4 = .ok (.iload_n 1, 1) := by decide +kernel
theorem d_Dr_hasGood_5 : decode b_Dr_hasGood 5 = .ok (.aload_n 0, 1) := by decide +kernel
theorem d_Dr_hasGood_6 : decode b_Dr_hasGood 6 = .ok (.getfield 21, 3) := by decide +kernel
theorem d_Dr_hasGood_9 : decode b_Dr_hasGood 9 = .ok (.if_icmp .ge 13, 3) := by decide +kernel
theorem d_Dr_hasGood_12 : decode b_Dr_hasGood 12 = .ok (.iload_n 1, 1) := by decide +kernel
theorem d_Dr_hasGood_13 : decode b_Dr_hasGood 13 = .ok (.bipush 6, 2) := by decide +kernel
theorem d_Dr_hasGood_15 : decode b_Dr_hasGood 15 = .ok (.if_icmp .ge 7, 3) := by decide +kernel
theorem d_Dr_hasGood_18 : decode b_Dr_hasGood 18 = .ok (.iconst 1, 1) := by decide +kernel
theorem d_Dr_hasGood_19 : decode b_Dr_hasGood 19 = .ok (.goto 4, 3) := by decide +kernel
theorem d_Dr_hasGood_22 : decode b_Dr_hasGood 22 = .ok (.iconst 0, 1) := by decide +kernel
theorem d_Dr_hasGood_23 : decode b_Dr_hasGood 23 = .ok (.ireturn, 1) := by decide +kernel
theorem d_Dr_amountOf_0 : decode b_Dr_amountOf 0 = .ok (.aload_n 0, 1) := by decide +kernel
theorem d_Dr_amountOf_1 : decode b_Dr_amountOf 1 = .ok (.iload_n 1, 1) := by decide +kernel
theorem d_Dr_amountOf_2 : decode b_Dr_amountOf 2 = .ok (.invokevirtual 66, 3) := by decide +kernel
theorem d_Dr_amountOf_5 : decode b_Dr_amountOf 5 = .ok (.ifCond .eq 12, 3) := by decide +kernel
theorem d_Dr_amountOf_8 : decode b_Dr_amountOf 8 = .ok (.aload_n 0, 1) := by decide +kernel
theorem d_Dr_amountOf_9 : decode b_Dr_amountOf 9 = .ok (.getfield 24, 3) := by decide +kernel
theorem d_Dr_amountOf_12 : decode b_Dr_amountOf 12 = .ok (.iload_n 1, 1) := by decide +kernel
theorem d_Dr_amountOf_13 : decode b_Dr_amountOf 13 = .ok (.iaload, 1) := by decide +kernel
theorem d_Dr_amountOf_14 : decode b_Dr_amountOf 14 = .ok (.goto 4, 3) := by decide +kernel
theorem d_Dr_amountOf_17 : decode b_Dr_amountOf 17 = .ok (.iconst 0, 1) := by decide +kernel
theorem d_Dr_amountOf_18 : decode b_Dr_amountOf 18 = .ok (.ireturn, 1) := by decide +kernel
theorem d_Dr_takes_0 : decode b_Dr_takes 0 = .ok (.aload_n 0, 1) := by decide +kernel
theorem d_Dr_takes_1 : decode b_Dr_takes 1 = .ok (.iload_n 1, 1) := by decide +kernel
theorem d_Dr_takes_2 : decode b_Dr_takes 2 = .ok (.invokevirtual 66, 3) := by decide +kernel
theorem d_Dr_takes_5 : decode b_Dr_takes 5 = .ok (.ifCond .eq 16, 3) := by decide +kernel
theorem d_Dr_takes_8 : decode b_Dr_takes 8 = .ok (.aload_n 0, 1) := by decide +kernel
theorem d_Dr_takes_9 : decode b_Dr_takes 9 = .ok (.getfield 34, 3) := by decide +kernel
theorem d_Dr_takes_12 : decode b_Dr_takes 12 = .ok (.iload_n 1, 1) := by decide +kernel
theorem d_Dr_takes_13 : decode b_Dr_takes 13 = .ok (.baload, 1) := by decide +kernel
theorem d_Dr_takes_14 : decode b_Dr_takes 14 = .ok (.ifCond .eq 7, 3) := by decide +kernel
theorem d_Dr_takes_17 : decode b_Dr_takes 17 = .ok (.iconst 1, 1) := by decide +kernel
theorem d_Dr_takes_18 : decode b_Dr_takes 18 = .ok (.goto 4, 3) := by decide +kernel
theorem d_Dr_takes_21 : decode b_Dr_takes 21 = .ok (.iconst 0, 1) := by decide +kernel
theorem d_Dr_takes_22 : decode b_Dr_takes 22 = .ok (.ireturn, 1) := by decide +kernel
theorem d_Dr_lies_0 : decode b_Dr_lies 0 = .ok (.aload_n 0, 1) := by decide +kernel
theorem d_Dr_lies_1 : decode b_Dr_lies 1 = .ok (.iload_n 1, 1) := by decide +kernel
theorem d_Dr_lies_2 : decode b_Dr_lies 2 = .ok (.invokevirtual 66, 3) := by decide +kernel
theorem d_Dr_lies_5 : decode b_Dr_lies 5 = .ok (.ifCond .eq 16, 3) := by decide +kernel
theorem d_Dr_lies_8 : decode b_Dr_lies 8 = .ok (.aload_n 0, 1) := by decide +kernel
theorem d_Dr_lies_9 : decode b_Dr_lies 9 = .ok (.getfield 38, 3) := by decide +kernel
theorem d_Dr_lies_12 : decode b_Dr_lies 12 = .ok (.iload_n 1, 1) := by decide +kernel
theorem d_Dr_lies_13 : decode b_Dr_lies 13 = .ok (.baload, 1) := by decide +kernel
theorem d_Dr_lies_14 : decode b_Dr_lies 14 = .ok (.ifCond .eq 7, 3) := by decide +kernel
theorem d_Dr_lies_17 : decode b_Dr_lies 17 = .ok (.iconst 1, 1) := by decide +kernel
theorem d_Dr_lies_18 : decode b_Dr_lies 18 = .ok (.goto 4, 3) := by decide +kernel
theorem d_Dr_lies_21 : decode b_Dr_lies 21 = .ok (.iconst 0, 1) := by decide +kernel
theorem d_Dr_lies_22 : decode b_Dr_lies 22 = .ok (.ireturn, 1) := by decide +kernel
theorem d_St_weigh_0 : decode b_St_weigh 0 = .ok (.aload_n 0, 1) := by decide +kernel
theorem d_St_weigh_1 : decode b_St_weigh 1 = .ok (.getfield 9, 3) := by decide +kernel
theorem d_St_weigh_4 : decode b_St_weigh 4 = .ok (.iload_n 1, 1) := by decide +kernel
theorem d_St_weigh_5 : decode b_St_weigh 5 = .ok (.invokevirtual 67, 3) := by decide +kernel
theorem d_St_weigh_8 : decode b_St_weigh 8 = .ok (.ifCond .ne 4, 3) := by decide +kernel
theorem d_St_weigh_11 : decode b_St_weigh 11 = .ok (.return_, 1) := by decide +kernel
theorem d_St_weigh_12 : decode b_St_weigh 12 = .ok (.iconst 0, 1) := by decide +kernel
theorem d_St_weigh_13 : decode b_St_weigh 13 = .ok (.istore_n 2, 1) := by decide +kernel
theorem d_St_weigh_14 : decode b_St_weigh 14 = .ok (.iconst 0, 1) := by decide +kernel
theorem d_St_weigh_15 : decode b_St_weigh 15 = .ok (.istore_n 3, 1) := by decide +kernel
theorem d_St_weigh_16 : decode b_St_weigh 16 = .ok (.iload_n 3, 1) := by decide +kernel
theorem d_St_weigh_17 : decode b_St_weigh 17 = .ok (.aload_n 0, 1) := by decide +kernel
theorem d_St_weigh_18 : decode b_St_weigh 18 = .ok (.getfield 9, 3) := by decide +kernel
theorem d_St_weigh_21 : decode b_St_weigh 21 = .ok (.invokevirtual 85, 3) := by decide +kernel
theorem d_St_weigh_24 : decode b_St_weigh 24 = .ok (.if_icmp .ge 38, 3) := by decide +kernel
theorem d_St_weigh_27 : decode b_St_weigh 27 = .ok (.iload_n 2, 1) := by decide +kernel
theorem d_St_weigh_28 : decode b_St_weigh 28 = .ok (.iconst 0, 1) := by decide +kernel
theorem d_St_weigh_29 : decode b_St_weigh 29 = .ok (.aload_n 0, 1) := by decide +kernel
theorem d_St_weigh_30 : decode b_St_weigh 30 = .ok (.iload_n 1, 1) := by decide +kernel
theorem d_St_weigh_31 : decode b_St_weigh 31 = .ok (.iload_n 3, 1) := by decide +kernel
theorem d_St_weigh_32 : decode b_St_weigh 32 = .ok (.invokevirtual 88, 3) := by decide +kernel
theorem d_St_weigh_35 : decode b_St_weigh 35 = .ok (.invokestatic 92, 3) := by decide +kernel
theorem d_St_weigh_38 : decode b_St_weigh 38 = .ok (.aload_n 0, 1) := by decide +kernel
theorem d_St_weigh_39 : decode b_St_weigh 39 = .ok (.getfield 9, 3) := by decide +kernel
theorem d_St_weigh_42 : decode b_St_weigh 42 = .ok (.aload_n 0, 1) := by decide +kernel
theorem d_St_weigh_43 : decode b_St_weigh 43 = .ok (.getfield 9, 3) := by decide +kernel
theorem d_St_weigh_46 : decode b_St_weigh 46 = .ok (.iload_n 3, 1) := by decide +kernel
theorem d_St_weigh_47 : decode b_St_weigh 47 = .ok (.invokevirtual 97, 3) := by decide +kernel
theorem d_St_weigh_50 : decode b_St_weigh 50 = .ok (.invokevirtual 76, 3) := by decide +kernel
theorem d_St_weigh_53 : decode b_St_weigh 53 = .ok (.imul, 1) := by decide +kernel
theorem d_St_weigh_54 : decode b_St_weigh 54 = .ok (.iadd, 1) := by decide +kernel
theorem d_St_weigh_55 : decode b_St_weigh 55 = .ok (.istore_n 2, 1) := by decide +kernel
theorem d_St_weigh_56 : decode b_St_weigh 56 = .ok (.iinc 3 1, 3) := by decide +kernel
theorem d_St_weigh_59 : decode b_St_weigh 59 = .ok (.goto (-43), 3) := by decide +kernel
theorem d_St_weigh_62 : decode b_St_weigh 62 = .ok (.aload_n 0, 1) := by decide +kernel
theorem d_St_weigh_63 : decode b_St_weigh 63 = .ok (.getfield 23, 3) := by decide +kernel
theorem d_St_weigh_66 : decode b_St_weigh 66 = .ok (.iload_n 1, 1) := by decide +kernel
theorem d_St_weigh_67 : decode b_St_weigh 67 = .ok (.aload_n 0, 1) := by decide +kernel
theorem d_St_weigh_68 : decode b_St_weigh 68 = .ok (.getfield 23, 3) := by decide +kernel
theorem d_St_weigh_71 : decode b_St_weigh 71 = .ok (.iload_n 1, 1) := by decide +kernel
theorem d_St_weigh_72 : decode b_St_weigh 72 = .ok (.iaload, 1) := by decide +kernel
theorem d_St_weigh_73 : decode b_St_weigh 73 = .ok (.iload_n 2, 1) := by decide +kernel
theorem d_St_weigh_74 : decode b_St_weigh 74 = .ok (.invokestatic 92, 3) := by decide +kernel
theorem d_St_weigh_77 : decode b_St_weigh 77 = .ok (.iastore, 1) := by decide +kernel
theorem d_St_weigh_78 : decode b_St_weigh 78 = .ok (.iload_n 2, 1) := by decide +kernel
theorem d_St_weigh_79 : decode b_St_weigh 79 = .ok (.aload_n 0, 1) := by decide +kernel
theorem d_St_weigh_80 : decode b_St_weigh 80 = .ok (.getfield 9, 3) := by decide +kernel
theorem d_St_weigh_83 : decode b_St_weigh 83 = .ok (.iload_n 1, 1) := by decide +kernel
theorem d_St_weigh_84 : decode b_St_weigh 84 = .ok (.invokevirtual 76, 3) := by decide +kernel
theorem d_St_weigh_87 : decode b_St_weigh 87 = .ok (.if_icmp .le 13, 3) := by decide +kernel
theorem d_St_weigh_90 : decode b_St_weigh 90 = .ok (.aload_n 0, 1) := by decide +kernel
theorem d_St_weigh_91 : decode b_St_weigh 91 = .ok (.dup, 1) := by decide +kernel
theorem d_St_weigh_92 : decode b_St_weigh 92 = .ok (.getfield 30, 3) := by decide +kernel
theorem d_St_weigh_95 : decode b_St_weigh 95 = .ok (.iconst 1, 1) := by decide +kernel
theorem d_St_weigh_96 : decode b_St_weigh 96 = .ok (.ior, 1) := by decide +kernel
theorem d_St_weigh_97 : decode b_St_weigh 97 = .ok (.putfield 30, 3) := by decide +kernel
theorem d_St_weigh_100 : decode b_St_weigh 100 = .ok (.return_, 1) := by decide +kernel
theorem d_Dr_goodCount_0 : decode b_Dr_goodCount 0 = .ok (.aload_n 0, 1) := by decide +kernel
theorem d_Dr_goodCount_1 : decode b_Dr_goodCount 1 = .ok (.getfield 21, 3) := by decide +kernel
theorem d_Dr_goodCount_4 : decode b_Dr_goodCount 4 = .ok (.ireturn, 1) := by decide +kernel
theorem d_St_stockAt_0 : decode b_St_stockAt 0 = .ok (.aload_n 0, 1) := by decide +kernel
theorem d_St_stockAt_1 : decode b_St_stockAt 1 = .ok (.getfield 9, 3) := by decide +kernel
theorem d_St_stockAt_4 : decode b_St_stockAt 4 = .ok (.iload_n 1, 1) := by decide +kernel
theorem d_St_stockAt_5 : decode b_St_stockAt 5 = .ok (.invokevirtual 67, 3) := by decide +kernel
theorem d_St_stockAt_8 : decode b_St_stockAt 8 = .ok (.ifCond .eq 14, 3) := by decide +kernel
theorem d_St_stockAt_11 : decode b_St_stockAt 11 = .ok (.aload_n 0, 1) := by decide +kernel
theorem d_St_stockAt_12 : decode b_St_stockAt 12 = .ok (.getfield 9, 3) := by decide +kernel
theorem d_St_stockAt_15 : decode b_St_stockAt 15 = .ok (.iload_n 2, 1) := by decide +kernel
theorem d_St_stockAt_16 : decode b_St_stockAt 16 = .ok (.invokevirtual 70, 3) := by decide +kernel
theorem d_St_stockAt_19 : decode b_St_stockAt 19 = .ok (.ifCond .ne 5, 3) := by decide +kernel
theorem d_St_stockAt_22 : decode b_St_stockAt 22 = .ok (.iconst 0, 1) := by decide +kernel
theorem d_St_stockAt_23 : decode b_St_stockAt 23 = .ok (.ireturn, 1) := by decide +kernel
theorem d_St_stockAt_24 : decode b_St_stockAt 24 = .ok (.aload_n 0, 1) := by decide +kernel
theorem d_St_stockAt_25 : decode b_St_stockAt 25 = .ok (.getfield 19, 3) := by decide +kernel
theorem d_St_stockAt_28 : decode b_St_stockAt 28 = .ok (.iload_n 1, 1) := by decide +kernel
theorem d_St_stockAt_29 : decode b_St_stockAt 29 = .ok (.bipush 6, 2) := by decide +kernel
theorem d_St_stockAt_31 : decode b_St_stockAt 31 = .ok (.imul, 1) := by decide +kernel
theorem d_St_stockAt_32 : decode b_St_stockAt 32 = .ok (.iload_n 2, 1) := by decide +kernel
theorem d_St_stockAt_33 : decode b_St_stockAt 33 = .ok (.iadd, 1) := by decide +kernel
theorem d_St_stockAt_34 : decode b_St_stockAt 34 = .ok (.iaload, 1) := by decide +kernel
theorem d_St_stockAt_35 : decode b_St_stockAt 35 = .ok (.ireturn, 1) := by decide +kernel
theorem d_St_compare_0 : decode b_St_compare 0 = .ok (.aload_n 0, 1) := by decide +kernel
theorem d_St_compare_1 : decode b_St_compare 1 = .ok (.getfield 9, 3) := by decide +kernel
theorem d_St_compare_4 : decode b_St_compare 4 = .ok (.iload_n 1, 1) := by decide +kernel
theorem d_St_compare_5 : decode b_St_compare 5 = .ok (.invokevirtual 100, 3) := by decide +kernel
theorem d_St_compare_8 : decode b_St_compare 8 = .ok (.ifCond .eq 89, 3) := by decide +kernel
theorem d_St_compare_11 : decode b_St_compare 11 = .ok (.aload_n 0, 1) := by decide +kernel
theorem d_St_compare_12 : decode b_St_compare 12 = .ok (.getfield 9, 3) := by decide +kernel
theorem d_St_compare_15 : decode b_St_compare 15 = .ok (.iload_n 1, 1) := by decide +kernel
theorem d_St_compare_16 : decode b_St_compare 16 = .ok (.invokevirtual 53, 3) := by decide +kernel
theorem d_St_compare_19 : decode b_St_compare 19 = .ok (.aload_n 0, 1) := by decide +kernel
theorem d_St_compare_20 : decode b_St_compare 20 = .ok (.getfield 9, 3) := by decide +kernel
theorem d_St_compare_23 : decode b_St_compare 23 = .ok (.iload_n 2, 1) := by decide +kernel
theorem d_St_compare_24 : decode b_St_compare 24 = .ok (.invokevirtual 53, 3) := by decide +kernel
theorem d_St_compare_27 : decode b_St_compare 27 = .ok (.if_icmp .ne 70, 3) := by decide +kernel
theorem d_St_compare_30 : decode b_St_compare 30 = .ok (.aload_n 0, 1) := by decide +kernel
theorem d_St_compare_31 : decode b_St_compare 31 = .ok (.getfield 9, 3) := by decide +kernel
theorem d_St_compare_34 : decode b_St_compare 34 = .ok (.iload_n 1, 1) := by decide +kernel
theorem d_St_compare_35 : decode b_St_compare 35 = .ok (.invokevirtual 73, 3) := by decide +kernel
theorem d_St_compare_38 : decode b_St_compare 38 = .ok (.aload_n 0, 1) := by decide +kernel
theorem d_St_compare_39 : decode b_St_compare 39 = .ok (.getfield 9, 3) := by decide +kernel
theorem d_St_compare_42 : decode b_St_compare 42 = .ok (.iload_n 2, 1) := by decide +kernel
theorem d_St_compare_43 : decode b_St_compare 43 = .ok (.invokevirtual 73, 3) := by decide +kernel
theorem d_St_compare_46 : decode b_St_compare 46 = .ok (.if_icmp .ne 51, 3) := by decide +kernel
theorem d_St_compare_49 : decode b_St_compare 49 = .ok (.aload_n 0, 1) := by decide +kernel
theorem d_St_compare_50 : decode b_St_compare 50 = .ok (.getfield 9, 3) := by decide +kernel
theorem d_St_compare_53 : decode b_St_compare 53 = .ok (.iload_n 1, 1) := by decide +kernel
theorem d_St_compare_54 : decode b_St_compare 54 = .ok (.invokevirtual 76, 3) := by decide +kernel
theorem d_St_compare_57 : decode b_St_compare 57 = .ok (.aload_n 0, 1) := by decide +kernel
theorem d_St_compare_58 : decode b_St_compare 58 = .ok (.getfield 9, 3) := by decide +kernel
theorem d_St_compare_61 : decode b_St_compare 61 = .ok (.iload_n 2, 1) := by decide +kernel
theorem d_St_compare_62 : decode b_St_compare 62 = .ok (.invokevirtual 76, 3) := by decide +kernel
theorem d_St_compare_65 : decode b_St_compare 65 = .ok (.if_icmp .ne 32, 3) := by decide +kernel
theorem d_St_compare_68 : decode b_St_compare 68 = .ok (.aload_n 0, 1) := by decide +kernel
theorem d_St_compare_69 : decode b_St_compare 69 = .ok (.getfield 9, 3) := by decide +kernel
theorem d_St_compare_72 : decode b_St_compare 72 = .ok (.iload_n 1, 1) := by decide +kernel
theorem d_St_compare_73 : decode b_St_compare 73 = .ok (.invokevirtual 79, 3) := by decide +kernel
theorem d_St_compare_76 : decode b_St_compare 76 = .ok (.aload_n 0, 1) := by decide +kernel
theorem d_St_compare_77 : decode b_St_compare 77 = .ok (.getfield 9, 3) := by decide +kernel
theorem d_St_compare_80 : decode b_St_compare 80 = .ok (.iload_n 2, 1) := by decide +kernel
theorem d_St_compare_81 : decode b_St_compare 81 = .ok (.invokevirtual 79, 3) := by decide +kernel
theorem d_St_compare_84 : decode b_St_compare 84 = .ok (.if_icmp .eq 13, 3) := by decide +kernel
theorem d_St_compare_87 : decode b_St_compare 87 = .ok (.aload_n 0, 1) := by decide +kernel
theorem d_St_compare_88 : decode b_St_compare 88 = .ok (.dup, 1) := by decide +kernel
theorem d_St_compare_89 : decode b_St_compare 89 = .ok (.getfield 30, 3) := by decide +kernel
theorem d_St_compare_92 : decode b_St_compare 92 = .ok (.iconst 4, 1) := by decide +kernel
theorem d_St_compare_93 : decode b_St_compare 93 = .ok (.ior, 1) := by decide +kernel
theorem d_St_compare_94 : decode b_St_compare 94 = .ok (.putfield 30, 3) := by decide +kernel
theorem d_St_compare_97 : decode b_St_compare 97 = .ok (.return_, 1) := by decide +kernel
theorem d_St_lookAtTheEnd_0 : decode b_St_lookAtTheEnd 0 = .ok (.iconst 0, 1) := by decide +kernel
theorem d_St_lookAtTheEnd_1 : decode b_St_lookAtTheEnd 1 = .ok (.istore_n 1, 1) := by decide +kernel
theorem d_St_lookAtTheEnd_2 : decode b_St_lookAtTheEnd 2 = .ok (.iconst 0, 1) := by decide +kernel
theorem d_St_lookAtTheEnd_3 : decode b_St_lookAtTheEnd 3 = .ok (.istore_n 2, 1) := by decide +kernel
theorem d_St_lookAtTheEnd_4 : decode b_St_lookAtTheEnd 4 = .ok (.iload_n 2, 1) := by decide +kernel
theorem d_St_lookAtTheEnd_5 : decode b_St_lookAtTheEnd 5 = .ok (.aload_n 0, 1) := by decide +kernel
theorem d_St_lookAtTheEnd_6 : decode b_St_lookAtTheEnd 6 = .ok (.getfield 9, 3) := by decide +kernel
theorem d_St_lookAtTheEnd_9 : decode b_St_lookAtTheEnd 9 = .ok (.invokevirtual 103, 3) := by decide +kernel
theorem d_St_lookAtTheEnd_12 : decode b_St_lookAtTheEnd 12 = .ok (.if_icmp .ge 67, 3) := by decide +kernel
theorem d_St_lookAtTheEnd_15 : decode b_St_lookAtTheEnd 15 = .ok (.iconst 0, 1) := by decide +kernel
theorem d_St_lookAtTheEnd_16 : decode b_St_lookAtTheEnd 16 = .ok (.istore_n 3, 1) := by decide +kernel
theorem d_St_lookAtTheEnd_17 : decode b_St_lookAtTheEnd 17 = .ok (.iload_n 3, 1) := by decide +kernel
theorem d_St_lookAtTheEnd_18 : decode b_St_lookAtTheEnd 18 = .ok (.aload_n 0, 1) := by decide +kernel
theorem d_St_lookAtTheEnd_19 : decode b_St_lookAtTheEnd 19 = .ok (.getfield 9, 3) := by decide +kernel
theorem d_St_lookAtTheEnd_22 : decode b_St_lookAtTheEnd 22 = .ok (.invokevirtual 85, 3) := by decide +kernel
theorem d_St_lookAtTheEnd_25 : decode b_St_lookAtTheEnd 25 = .ok (.if_icmp .ge 18, 3) := by decide +kernel
theorem d_St_lookAtTheEnd_28 : decode b_St_lookAtTheEnd 28 = .ok (.iload_n 1, 1) := by decide +kernel
theorem d_St_lookAtTheEnd_29 : decode b_St_lookAtTheEnd 29 = .ok (.aload_n 0, 1) := by decide +kernel
theorem d_St_lookAtTheEnd_30 : decode b_St_lookAtTheEnd 30 = .ok (.iload_n 2, 1) := by decide +kernel
theorem d_St_lookAtTheEnd_31 : decode b_St_lookAtTheEnd 31 = .ok (.iload_n 3, 1) := by decide +kernel
theorem d_St_lookAtTheEnd_32 : decode b_St_lookAtTheEnd 32 = .ok (.invokevirtual 88, 3) := by decide +kernel
theorem d_St_lookAtTheEnd_35 : decode b_St_lookAtTheEnd 35 = .ok (.iadd, 1) := by decide +kernel
theorem d_St_lookAtTheEnd_36 : decode b_St_lookAtTheEnd 36 = .ok (.istore_n 1, 1) := by decide +kernel
theorem d_St_lookAtTheEnd_37 : decode b_St_lookAtTheEnd 37 = .ok (.iinc 3 1, 3) := by decide +kernel
theorem d_St_lookAtTheEnd_40 : decode b_St_lookAtTheEnd 40 = .ok (.goto (-23), 3) := by decide +kernel
theorem d_St_lookAtTheEnd_43 : decode b_St_lookAtTheEnd 43 = .ok (.aload_n 0, 1) := by decide +kernel
theorem d_St_lookAtTheEnd_44 : decode b_St_lookAtTheEnd 44 = .ok (.getfield 15, 3) := by decide +kernel
theorem d_St_lookAtTheEnd_47 : decode b_St_lookAtTheEnd 47 = .ok (.iload_n 2, 1) := by decide +kernel
theorem d_St_lookAtTheEnd_48 : decode b_St_lookAtTheEnd 48 = .ok (.invokevirtual 106, 3) := by decide +kernel
theorem d_St_lookAtTheEnd_51 : decode b_St_lookAtTheEnd 51 = .ok (.ifCond .eq 22, 3) := by decide +kernel
theorem d_St_lookAtTheEnd_54 : decode b_St_lookAtTheEnd 54 = .ok (.aload_n 0, 1) := by decide +kernel
theorem d_St_lookAtTheEnd_55 : decode b_St_lookAtTheEnd 55 = .ok (.iload_n 2, 1) := by decide +kernel
theorem d_St_lookAtTheEnd_56 : decode b_St_lookAtTheEnd 56 = .ok (.invokevirtual 109, 3) := by decide +kernel
theorem d_St_lookAtTheEnd_59 : decode b_St_lookAtTheEnd 59 = .ok (.ifCond .ne 14, 3) := by decide +kernel
theorem d_St_lookAtTheEnd_62 : decode b_St_lookAtTheEnd 62 = .ok (.aload_n 0, 1) := by decide +kernel
theorem d_St_lookAtTheEnd_63 : decode b_St_lookAtTheEnd 63 = .ok (.dup, 1) := by decide +kernel
theorem d_St_lookAtTheEnd_64 : decode b_St_lookAtTheEnd 64 = .ok (.getfield 30, 3) := by decide +kernel
theorem d_St_lookAtTheEnd_67 : decode b_St_lookAtTheEnd 67 = .ok (.bipush 32, 2) := by decide +kernel
theorem d_St_lookAtTheEnd_69 : decode b_St_lookAtTheEnd 69 = .ok (.ior, 1) := by decide +kernel
theorem d_St_lookAtTheEnd_70 : decode b_St_lookAtTheEnd 70 = .ok (.putfield 30, 3) := by decide +kernel
theorem d_St_lookAtTheEnd_73 : decode b_St_lookAtTheEnd 73 = .ok (.iinc 2 1, 3) := by decide +kernel
theorem d_St_lookAtTheEnd_76 : decode b_St_lookAtTheEnd 76 = .ok (.goto (-72), 3) := by decide +kernel
theorem d_St_lookAtTheEnd_79 : decode b_St_lookAtTheEnd 79 = .ok (.iload_n 1, 1) := by decide +kernel
theorem d_St_lookAtTheEnd_80 : decode b_St_lookAtTheEnd 80 = .ok (.iconst 1, 1) := by decide +kernel
theorem d_St_lookAtTheEnd_81 : decode b_St_lookAtTheEnd 81 = .ok (.iand, 1) := by decide +kernel
theorem d_St_lookAtTheEnd_82 : decode b_St_lookAtTheEnd 82 = .ok (.iconst 1, 1) := by decide +kernel
theorem d_St_lookAtTheEnd_83 : decode b_St_lookAtTheEnd 83 = .ok (.if_icmp .ne 14, 3) := by decide +kernel
theorem d_St_lookAtTheEnd_86 : decode b_St_lookAtTheEnd 86 = .ok (.aload_n 0, 1) := by decide +kernel
theorem d_St_lookAtTheEnd_87 : decode b_St_lookAtTheEnd 87 = .ok (.dup, 1) := by decide +kernel
theorem d_St_lookAtTheEnd_88 : decode b_St_lookAtTheEnd 88 = .ok (.getfield 30, 3) := by decide +kernel
theorem d_St_lookAtTheEnd_91 : decode b_St_lookAtTheEnd 91 = .ok (.bipush 16, 2) := by decide +kernel
theorem d_St_lookAtTheEnd_93 : decode b_St_lookAtTheEnd 93 = .ok (.ior, 1) := by decide +kernel
theorem d_St_lookAtTheEnd_94 : decode b_St_lookAtTheEnd 94 = .ok (.putfield 30, 3) := by decide +kernel
theorem d_St_lookAtTheEnd_97 : decode b_St_lookAtTheEnd 97 = .ok (.return_, 1) := by decide +kernel
theorem d_Dr_placeCount_0 : decode b_Dr_placeCount 0 = .ok (.aload_n 0, 1) := by decide +kernel
theorem d_Dr_placeCount_1 : decode b_Dr_placeCount 1 = .ok (.getfield 18, 3) := by decide +kernel
theorem d_Dr_placeCount_4 : decode b_Dr_placeCount 4 = .ok (.ireturn, 1) := by decide +kernel
theorem d_St_isBusy_0 : decode b_St_isBusy 0 = .ok (.aload_n 0, 1) := by decide +kernel
theorem d_St_isBusy_1 : decode b_St_isBusy 1 = .ok (.getfield 9, 3) := by decide +kernel
theorem d_St_isBusy_4 : decode b_St_isBusy 4 = .ok (.iload_n 1, 1) := by decide +kernel
theorem d_St_isBusy_5 : decode b_St_isBusy 5 = .ok (.invokevirtual 67, 3) := by decide +kernel
theorem d_St_isBusy_8 : decode b_St_isBusy 8 = .ok (.ifCond .eq 16, 3) := by decide +kernel
theorem d_St_isBusy_11 : decode b_St_isBusy 11 = .ok (.aload_n 0, 1) := by decide +kernel
theorem d_St_isBusy_12 : decode b_St_isBusy 12 = .ok (.getfield 26, 3) := by decide +kernel
theorem d_St_isBusy_15 : decode b_St_isBusy 15 = .ok (.iload_n 1, 1) := by decide +kernel
theorem d_St_isBusy_16 : decode b_St_isBusy 16 = .ok (.baload, 1) := by decide +kernel
theorem d_St_isBusy_17 : decode b_St_isBusy 17 = .ok (.ifCond .eq 7, 3) := by decide +kernel
theorem d_St_isBusy_20 : decode b_St_isBusy 20 = .ok (.iconst 1, 1) := by decide +kernel
theorem d_St_isBusy_21 : decode b_St_isBusy 21 = .ok (.goto 4, 3) := by decide +kernel
theorem d_St_isBusy_24 : decode b_St_isBusy 24 = .ok (.iconst 0, 1) := by decide +kernel
theorem d_St_isBusy_25 : decode b_St_isBusy 25 = .ok (.ireturn, 1) := by decide +kernel
theorem d_SD_minimal_0 : decode b_SD_minimal 0 = .ok (.aload_n 0, 1) := by decide +kernel
theorem d_SD_minimal_1 : decode b_SD_minimal 1 = .ok (.invokevirtual 116, 3) := by decide +kernel
theorem d_SD_minimal_4 : decode b_SD_minimal 4 = .ok (.ifCond .ne 5, 3) := by decide +kernel
theorem d_SD_minimal_7 : decode b_SD_minimal 7 = .ok (.iconst 0, 1) := by decide +kernel
theorem d_SD_minimal_8 : decode b_SD_minimal 8 = .ok (.ireturn, 1) := by decide +kernel
theorem d_SD_minimal_9 : decode b_SD_minimal 9 = .ok (.iconst 0, 1) := by decide +kernel
theorem d_SD_minimal_10 : decode b_SD_minimal 10 = .ok (.istore_n 1, 1) := by decide +kernel
theorem d_SD_minimal_11 : decode b_SD_minimal 11 = .ok (.iload_n 1, 1) := by decide +kernel
theorem d_SD_minimal_12 : decode b_SD_minimal 12 = .ok (.aload_n 0, 1) := by decide +kernel
theorem d_SD_minimal_13 : decode b_SD_minimal 13 = .ok (.getfield 26, 3) := by decide +kernel
theorem d_SD_minimal_16 : decode b_SD_minimal 16 = .ok (.invokevirtual 64, 3) := by decide +kernel
theorem d_SD_minimal_19 : decode b_SD_minimal 19 = .ok (.if_icmp .ge 30, 3) := by decide +kernel
theorem d_SD_minimal_22 : decode b_SD_minimal 22 = .ok (.aload_n 0, 1) := by decide +kernel
theorem d_SD_minimal_23 : decode b_SD_minimal 23 = .ok (.getfield 30, 3) := by decide +kernel
theorem d_SD_minimal_26 : decode b_SD_minimal 26 = .ok (.iload_n 1, 1) := by decide +kernel
theorem d_SD_minimal_27 : decode b_SD_minimal 27 = .ok (.invokevirtual 104, 3) := by decide +kernel
theorem d_SD_minimal_30 : decode b_SD_minimal 30 = .ok (.ifCond .eq 13, 3) := by decide +kernel
theorem d_SD_minimal_33 : decode b_SD_minimal 33 = .ok (.aload_n 0, 1) := by decide +kernel
theorem d_SD_minimal_34 : decode b_SD_minimal 34 = .ok (.iload_n 1, 1) := by decide +kernel
theorem d_SD_minimal_35 : decode b_SD_minimal 35 = .ok (.invokevirtual 133, 3) := by decide +kernel
theorem d_SD_minimal_38 : decode b_SD_minimal 38 = .ok (.ifCond .eq 5, 3) := by decide +kernel
theorem d_SD_minimal_41 : decode b_SD_minimal 41 = .ok (.iconst 0, 1) := by decide +kernel
theorem d_SD_minimal_42 : decode b_SD_minimal 42 = .ok (.ireturn, 1) := by decide +kernel
theorem d_SD_minimal_43 : decode b_SD_minimal 43 = .ok (.iinc 1 1, 3) := by decide +kernel
theorem d_SD_minimal_46 : decode b_SD_minimal 46 = .ok (.goto (-35), 3) := by decide +kernel
theorem d_SD_minimal_49 : decode b_SD_minimal 49 = .ok (.iconst 1, 1) := by decide +kernel
theorem d_SD_minimal_50 : decode b_SD_minimal 50 = .ok (.ireturn, 1) := by decide +kernel
theorem d_SD_verdictIsMet_0 : decode b_SD_verdictIsMet 0 = .ok (.aload_n 0, 1) := by decide +kernel
theorem d_SD_verdictIsMet_1 : decode b_SD_verdictIsMet 1 = .ok (.getfield 39, 3) := by decide +kernel
theorem d_SD_verdictIsMet_4 : decode b_SD_verdictIsMet 4 = .ok (.invokevirtual 120, 3) := by decide +kernel
theorem d_SD_verdictIsMet_7 : decode b_SD_verdictIsMet 7 = .ok (.aload_n 0, 1) := by decide +kernel
theorem d_SD_verdictIsMet_8 : decode b_SD_verdictIsMet 8 = .ok (.getfield 49, 3) := by decide +kernel
theorem d_SD_verdictIsMet_11 : decode b_SD_verdictIsMet 11 = .ok (.iand, 1) := by decide +kernel
theorem d_SD_verdictIsMet_12 : decode b_SD_verdictIsMet 12 = .ok (.aload_n 0, 1) := by decide +kernel
theorem d_SD_verdictIsMet_13 : decode b_SD_verdictIsMet 13 = .ok (.getfield 49, 3) := by decide +kernel
theorem d_SD_verdictIsMet_16 : decode b_SD_verdictIsMet 16 = .ok (.if_icmp .ne 7, 3) := by decide +kernel
theorem d_SD_verdictIsMet_19 : decode b_SD_verdictIsMet 19 = .ok (.iconst 1, 1) := by decide +kernel
theorem d_SD_verdictIsMet_20 : decode b_SD_verdictIsMet 20 = .ok (.goto 4, 3) := by decide +kernel
theorem d_SD_verdictIsMet_23 : decode b_SD_verdictIsMet 23 = .ok (.iconst 0, 1) := by decide +kernel
theorem d_SD_verdictIsMet_24 : decode b_SD_verdictIsMet 24 = .ok (.ireturn, 1) := by decide +kernel
theorem d_SD_verdictIsMetWithout_0 : decode b_SD_verdictIsMetWithout 0 = .ok (.aload_n 0, 1) := by decide +kernel
theorem d_SD_verdictIsMetWithout_1 : decode b_SD_verdictIsMetWithout 1 = .ok (.getfield 30, 3) := by decide +kernel
theorem d_SD_verdictIsMetWithout_4 : decode b_SD_verdictIsMetWithout 4 = .ok (.iload_n 1, 1) := by decide +kernel
theorem d_SD_verdictIsMetWithout_5 : decode b_SD_verdictIsMetWithout 5 = .ok (.iconst 1, 1) := by decide +kernel
theorem d_SD_verdictIsMetWithout_6 : decode b_SD_verdictIsMetWithout 6 = .ok (.invokevirtual 112, 3) := by decide +kernel
theorem d_SD_verdictIsMetWithout_9 : decode b_SD_verdictIsMetWithout 9 = .ok (.aload_n 0, 1) := by decide +kernel
theorem d_SD_verdictIsMetWithout_10 : decode b_SD_verdictIsMetWithout 10 = .ok (.invokevirtual 116, 3) := by decide +kernel
theorem d_SD_verdictIsMetWithout_13 : decode b_SD_verdictIsMetWithout 13 = .ok (.istore_n 2, 1) := by decide +kernel
theorem d_SD_verdictIsMetWithout_14 : decode b_SD_verdictIsMetWithout 14 = .ok (.aload_n 0, 1) := by decide +kernel
theorem d_SD_verdictIsMetWithout_15 : decode b_SD_verdictIsMetWithout 15 = .ok (.getfield 30, 3) := by decide +kernel
theorem d_SD_verdictIsMetWithout_18 : decode b_SD_verdictIsMetWithout 18 = .ok (.iload_n 1, 1) := by decide +kernel
theorem d_SD_verdictIsMetWithout_19 : decode b_SD_verdictIsMetWithout 19 = .ok (.iconst 0, 1) := by decide +kernel
theorem d_SD_verdictIsMetWithout_20 : decode b_SD_verdictIsMetWithout 20 = .ok (.invokevirtual 112, 3) := by decide +kernel
theorem d_SD_verdictIsMetWithout_23 : decode b_SD_verdictIsMetWithout 23 = .ok (.iload_n 2, 1) := by decide +kernel
theorem d_SD_verdictIsMetWithout_24 : decode b_SD_verdictIsMetWithout 24 = .ok (.ireturn, 1) := by decide +kernel
theorem d_Re_setOut_0 : decode b_Re_setOut 0 = .ok (.aload_n 0, 1) := by decide +kernel
theorem d_Re_setOut_1 : decode b_Re_setOut 1 = .ok (.getfield 9, 3) := by decide +kernel
theorem d_Re_setOut_4 : decode b_Re_setOut 4 = .ok (.iload_n 1, 1) := by decide +kernel
theorem d_Re_setOut_5 : decode b_Re_setOut 5 = .ok (.invokevirtual 19, 3) := by decide +kernel
theorem d_Re_setOut_8 : decode b_Re_setOut 8 = .ok (.ifCond .eq 10, 3) := by decide +kernel
theorem d_Re_setOut_11 : decode b_Re_setOut 11 = .ok (.aload_n 0, 1) := by decide +kernel
theorem d_Re_setOut_12 : decode b_Re_setOut 12 = .ok (.getfield 15, 3) := by decide +kernel
theorem d_Re_setOut_15 : decode b_Re_setOut 15 = .ok (.iload_n 1, 1) := by decide +kernel
theorem d_Re_setOut_16 : decode b_Re_setOut 16 = .ok (.iload_n 2, 1) := by decide +kernel
theorem d_Re_setOut_17 : decode b_Re_setOut 17 = .ok (.bastore, 1) := by decide +kernel
theorem d_Re_setOut_18 : decode b_Re_setOut 18 = .ok (.return_, 1) := by decide +kernel
theorem d_SD_holds_0 : decode b_SD_holds 0 = .ok (.aload_n 0, 1) := by decide +kernel
theorem d_SD_holds_1 : decode b_SD_holds 1 = .ok (.invokevirtual 116, 3) := by decide +kernel
theorem d_SD_holds_4 : decode b_SD_holds 4 = .ok (.ireturn, 1) := by decide +kernel
theorem d_SD_conditions_0 : decode b_SD_conditions 0 = .ok (.aload_n 0, 1) := by decide +kernel
theorem d_SD_conditions_1 : decode b_SD_conditions 1 = .ok (.getfield 39, 3) := by decide +kernel
theorem d_SD_conditions_4 : decode b_SD_conditions 4 = .ok (.invokevirtual 120, 3) := by decide +kernel
theorem d_SD_conditions_7 : decode b_SD_conditions 7 = .ok (.ireturn, 1) := by decide +kernel
theorem d_SD_again_0 : decode b_SD_again 0 = .ok (.aload_n 0, 1) := by decide +kernel
theorem d_SD_again_1 : decode b_SD_again 1 = .ok (.getfield 22, 3) := by decide +kernel
theorem d_SD_again_4 : decode b_SD_again 4 = .ok (.lload_n 1, 1) := by decide +kernel
theorem d_SD_again_5 : decode b_SD_again 5 = .ok (.invokevirtual 68, 3) := by decide +kernel
theorem d_SD_again_8 : decode b_SD_again 8 = .ok (.return_, 1) := by decide +kernel
theorem d_So_restart_0 : decode b_So_restart 0 = .ok (.aload_n 0, 1) := by decide +kernel
theorem d_So_restart_1 : decode b_So_restart 1 = .ok (.lload_n 1, 1) := by decide +kernel
theorem d_So_restart_2 : decode b_So_restart 2 = .ok (.putfield 7, 3) := by decide +kernel
theorem d_So_restart_5 : decode b_So_restart 5 = .ok (.return_, 1) := by decide +kernel
theorem d_SD_whole_0 : decode b_SD_whole 0 = .ok (.aload_n 0, 1) := by decide +kernel
theorem d_SD_whole_1 : decode b_SD_whole 1 = .ok (.getfield 26, 3) := by decide +kernel
theorem d_SD_whole_4 : decode b_SD_whole 4 = .ok (.invokevirtual 64, 3) := by decide +kernel
theorem d_SD_whole_7 : decode b_SD_whole 7 = .ok (.aload_n 0, 1) := by decide +kernel
theorem d_SD_whole_8 : decode b_SD_whole 8 = .ok (.getfield 30, 3) := by decide +kernel
theorem d_SD_whole_11 : decode b_SD_whole 11 = .ok (.invokevirtual 130, 3) := by decide +kernel
theorem d_SD_whole_14 : decode b_SD_whole 14 = .ok (.isub, 1) := by decide +kernel
theorem d_SD_whole_15 : decode b_SD_whole 15 = .ok (.istore_n 1, 1) := by decide +kernel
theorem d_SD_whole_16 : decode b_SD_whole 16 = .ok (.aload_n 0, 1) := by decide +kernel
theorem d_SD_whole_17 : decode b_SD_whole 17 = .ok (.getfield 30, 3) := by decide +kernel
theorem d_SD_whole_20 : decode b_SD_whole 20 = .ok (.invokevirtual 61, 3) := by decide +kernel
theorem d_SD_whole_23 : decode b_SD_whole 23 = .ok (.iload_n 1, 1) := by decide +kernel
theorem d_SD_whole_24 : decode b_SD_whole 24 = .ok (.ireturn, 1) := by decide +kernel
theorem d_Re_leftCount_0 : decode b_Re_leftCount 0 = .ok (.iconst 0, 1) := by decide +kernel
theorem d_Re_leftCount_1 : decode b_Re_leftCount 1 = .ok (.istore_n 1, 1) := by decide +kernel
theorem d_Re_leftCount_2 : decode b_Re_leftCount 2 = .ok (.iconst 0, 1) := by decide +kernel
theorem d_Re_leftCount_3 : decode b_Re_leftCount 3 = .ok (.istore_n 2, 1) := by decide +kernel
theorem d_Re_leftCount_4 : decode b_Re_leftCount 4 = .ok (.iload_n 2, 1) := by decide +kernel
theorem d_Re_leftCount_5 : decode b_Re_leftCount 5 = .ok (.aload_n 0, 1) := by decide +kernel
theorem d_Re_leftCount_6 : decode b_Re_leftCount 6 = .ok (.getfield 9, 3) := by decide +kernel
theorem d_Re_leftCount_9 : decode b_Re_leftCount 9 = .ok (.invokevirtual 41, 3) := by decide +kernel
theorem d_Re_leftCount_12 : decode b_Re_leftCount 12 = .ok (.if_icmp .ge 20, 3) := by decide +kernel
theorem d_Re_leftCount_15 : decode b_Re_leftCount 15 = .ok (.aload_n 0, 1) := by decide +kernel
theorem d_Re_leftCount_16 : decode b_Re_leftCount 16 = .ok (.iload_n 2, 1) := by decide +kernel
theorem d_Re_leftCount_17 : decode b_Re_leftCount 17 = .ok (.invokevirtual 25, 3) := by decide +kernel
theorem d_Re_leftCount_20 : decode b_Re_leftCount 20 = .ok (.ifCond .eq 6, 3) := by decide +kernel
theorem d_Re_leftCount_23 : decode b_Re_leftCount 23 = .ok (.iinc 1 1, 3) := by decide +kernel
theorem d_Re_leftCount_26 : decode b_Re_leftCount 26 = .ok (.iinc 2 1, 3) := by decide +kernel
theorem d_Re_leftCount_29 : decode b_Re_leftCount 29 = .ok (.goto (-25), 3) := by decide +kernel
theorem d_Re_leftCount_32 : decode b_Re_leftCount 32 = .ok (.iload_n 1, 1) := by decide +kernel
theorem d_Re_leftCount_33 : decode b_Re_leftCount 33 = .ok (.ireturn, 1) := by decide +kernel
theorem d_Re_takeAllBack_0 : decode b_Re_takeAllBack 0 = .ok (.iconst 0, 1) := by decide +kernel
theorem d_Re_takeAllBack_1 : decode b_Re_takeAllBack 1 = .ok (.istore_n 1, 1) := by decide +kernel
theorem d_Re_takeAllBack_2 : decode b_Re_takeAllBack 2 = .ok (.iload_n 1, 1) := by decide +kernel
theorem d_Re_takeAllBack_3 : decode b_Re_takeAllBack 3 = .ok (.bipush 30, 2) := by decide +kernel
theorem d_Re_takeAllBack_5 : decode b_Re_takeAllBack 5 = .ok (.if_icmp .ge 16, 3) := by decide +kernel
theorem d_Re_takeAllBack_8 : decode b_Re_takeAllBack 8 = .ok (.aload_n 0, 1) := by decide +kernel
theorem d_Re_takeAllBack_9 : decode b_Re_takeAllBack 9 = .ok (.getfield 15, 3) := by decide +kernel
theorem d_Re_takeAllBack_12 : decode b_Re_takeAllBack 12 = .ok (.iload_n 1, 1) := by decide +kernel
theorem d_Re_takeAllBack_13 : decode b_Re_takeAllBack 13 = .ok (.iconst 0, 1) := by decide +kernel
theorem d_Re_takeAllBack_14 : decode b_Re_takeAllBack 14 = .ok (.bastore, 1) := by decide +kernel
theorem d_Re_takeAllBack_15 : decode b_Re_takeAllBack 15 = .ok (.iinc 1 1, 3) := by decide +kernel
theorem d_Re_takeAllBack_18 : decode b_Re_takeAllBack 18 = .ok (.goto (-16), 3) := by decide +kernel
theorem d_Re_takeAllBack_21 : decode b_Re_takeAllBack 21 = .ok (.return_, 1) := by decide +kernel
theorem d_Dr_redraw_0 : decode b_Dr_redraw 0 = .ok (.aload_n 0, 1) := by decide +kernel
theorem d_Dr_redraw_1 : decode b_Dr_redraw 1 = .ok (.iload_n 2, 1) := by decide +kernel
theorem d_Dr_redraw_2 : decode b_Dr_redraw 2 = .ok (.putfield 9, 3) := by decide +kernel
theorem d_Dr_redraw_5 : decode b_Dr_redraw 5 = .ok (.aload_n 0, 1) := by decide +kernel
theorem d_Dr_redraw_6 : decode b_Dr_redraw 6 = .ok (.iconst 0, 1) := by decide +kernel
theorem d_Dr_redraw_7 : decode b_Dr_redraw 7 = .ok (.putfield 15, 3) := by decide +kernel
theorem d_Dr_redraw_10 : decode b_Dr_redraw 10 = .ok (.aload_n 0, 1) := by decide +kernel
theorem d_Dr_redraw_11 : decode b_Dr_redraw 11 = .ok (.iconst 1, 1) := by decide +kernel
theorem d_Dr_redraw_12 : decode b_Dr_redraw 12 = .ok (.aload_n 1, 1) := by decide +kernel
theorem d_Dr_redraw_13 : decode b_Dr_redraw 13 = .ok (.aload_n 0, 1) := by decide +kernel
theorem d_Dr_redraw_14 : decode b_Dr_redraw 14 = .ok (.getfield 9, 3) := by decide +kernel
theorem d_Dr_redraw_17 : decode b_Dr_redraw 17 = .ok (.iconst 1, 1) := by decide +kernel
theorem d_Dr_redraw_18 : decode b_Dr_redraw 18 = .ok (.iadd, 1) := by decide +kernel
theorem d_Dr_redraw_19 : decode b_Dr_redraw 19 = .ok (.invokevirtual 41, 3) := by decide +kernel
theorem d_Dr_redraw_22 : decode b_Dr_redraw 22 = .ok (.iadd, 1) := by decide +kernel
theorem d_Dr_redraw_23 : decode b_Dr_redraw 23 = .ok (.putfield 18, 3) := by decide +kernel
theorem d_Dr_redraw_26 : decode b_Dr_redraw 26 = .ok (.iconst 0, 1) := by decide +kernel
theorem d_Dr_redraw_27 : decode b_Dr_redraw 27 = .ok (.istore_n 3, 1) := by decide +kernel
theorem d_Dr_redraw_28 : decode b_Dr_redraw 28 = .ok (.iload_n 3, 1) := by decide +kernel
theorem d_Dr_redraw_29 : decode b_Dr_redraw 29 = .ok (.aload_n 0, 1) := by decide +kernel
theorem d_Dr_redraw_30 : decode b_Dr_redraw 30 = .ok (.getfield 18, 3) := by decide +kernel
theorem d_Dr_redraw_33 : decode b_Dr_redraw 33 = .ok (.if_icmp .ge 21, 3) := by decide +kernel
theorem d_Dr_redraw_36 : decode b_Dr_redraw 36 = .ok (.aload_n 0, 1) := by decide +kernel
theorem d_Dr_redraw_37 : decode b_Dr_redraw 37 = .ok (.iconst 4, 1) := by decide +kernel
theorem d_Dr_redraw_38 : decode b_Dr_redraw 38 = .ok (.aload_n 1, 1) := by decide +kernel
theorem d_Dr_redraw_39 : decode b_Dr_redraw 39 = .ok (.bipush 20, 2) := by decide +kernel
theorem d_Dr_redraw_41 : decode b_Dr_redraw 41 = .ok (.invokevirtual 41, 3) := by decide +kernel
theorem d_Dr_redraw_44 : decode b_Dr_redraw 44 = .ok (.iadd, 1) := by decide +kernel
theorem d_Dr_redraw_45 : decode b_Dr_redraw 45 = .ok (.invokevirtual 47, 3) := by decide +kernel
theorem d_Dr_redraw_48 : decode b_Dr_redraw 48 = .ok (.iinc 3 1, 3) := by decide +kernel
theorem d_Dr_redraw_51 : decode b_Dr_redraw 51 = .ok (.goto (-23), 3) := by decide +kernel
theorem d_Dr_redraw_54 : decode b_Dr_redraw 54 = .ok (.aload_n 0, 1) := by decide +kernel
theorem d_Dr_redraw_55 : decode b_Dr_redraw 55 = .ok (.iconst 1, 1) := by decide +kernel
theorem d_Dr_redraw_56 : decode b_Dr_redraw 56 = .ok (.aload_n 1, 1) := by decide +kernel
theorem d_Dr_redraw_57 : decode b_Dr_redraw 57 = .ok (.aload_n 0, 1) := by decide +kernel
theorem d_Dr_redraw_58 : decode b_Dr_redraw 58 = .ok (.getfield 9, 3) := by decide +kernel
theorem d_Dr_redraw_61 : decode b_Dr_redraw 61 = .ok (.iconst 1, 1) := by decide +kernel
theorem d_Dr_redraw_62 : decode b_Dr_redraw 62 = .ok (.iadd, 1) := by decide +kernel
theorem d_Dr_redraw_63 : decode b_Dr_redraw 63 = .ok (.invokevirtual 41, 3) := by decide +kernel
theorem d_Dr_redraw_66 : decode b_Dr_redraw 66 = .ok (.iadd, 1) := by decide +kernel
theorem d_Dr_redraw_67 : decode b_Dr_redraw 67 = .ok (.putfield 21, 3) := by decide +kernel
theorem d_Dr_redraw_70 : decode b_Dr_redraw 70 = .ok (.iconst 0, 1) := by decide +kernel
theorem d_Dr_redraw_71 : decode b_Dr_redraw 71 = .ok (.istore_n 3, 1) := by decide +kernel
theorem d_Dr_redraw_72 : decode b_Dr_redraw 72 = .ok (.iload_n 3, 1) := by decide +kernel
theorem d_Dr_redraw_73 : decode b_Dr_redraw 73 = .ok (.aload_n 0, 1) := by decide +kernel
theorem d_Dr_redraw_74 : decode b_Dr_redraw 74 = .ok (.getfield 21, 3) := by decide +kernel
theorem d_Dr_redraw_77 : decode b_Dr_redraw 77 = .ok (.if_icmp .ge 21, 3) := by decide +kernel
theorem d_Dr_redraw_80 : decode b_Dr_redraw 80 = .ok (.aload_n 0, 1) := by decide +kernel
theorem d_Dr_redraw_81 : decode b_Dr_redraw 81 = .ok (.iconst 1, 1) := by decide +kernel
theorem d_Dr_redraw_82 : decode b_Dr_redraw 82 = .ok (.aload_n 1, 1) := by decide +kernel
theorem d_Dr_redraw_83 : decode b_Dr_redraw 83 = .ok (.bipush 6, 2) := by decide +kernel
theorem d_Dr_redraw_85 : decode b_Dr_redraw 85 = .ok (.invokevirtual 41, 3) := by decide +kernel
theorem d_Dr_redraw_88 : decode b_Dr_redraw 88 = .ok (.iadd, 1) := by decide +kernel
theorem d_Dr_redraw_89 : decode b_Dr_redraw 89 = .ok (.invokevirtual 47, 3) := by decide +kernel
theorem d_Dr_redraw_92 : decode b_Dr_redraw 92 = .ok (.iinc 3 1, 3) := by decide +kernel
theorem d_Dr_redraw_95 : decode b_Dr_redraw 95 = .ok (.goto (-23), 3) := by decide +kernel
theorem d_Dr_redraw_98 : decode b_Dr_redraw 98 = .ok (.iconst 3, 1) := by decide +kernel
theorem d_Dr_redraw_99 : decode b_Dr_redraw 99 = .ok (.aload_n 0, 1) := by decide +kernel
theorem d_Dr_redraw_100 : decode b_Dr_redraw 100 = .ok (.getfield 9, 3) := by decide +kernel
theorem d_Dr_redraw_103 : decode b_Dr_redraw 103 = .ok (.imul, 1) := by decide +kernel
theorem d_Dr_redraw_104 : decode b_Dr_redraw 104 = .ok (.aload_n 1, 1) := by decide +kernel
theorem d_Dr_redraw_105 : decode b_Dr_redraw 105 = .ok (.iconst 4, 1) := by decide +kernel
theorem d_Dr_redraw_106 : decode b_Dr_redraw 106 = .ok (.invokevirtual 41, 3) := by decide +kernel
theorem d_Dr_redraw_109 : decode b_Dr_redraw 109 = .ok (.iadd, 1) := by decide +kernel
theorem d_Dr_redraw_110 : decode b_Dr_redraw 110 = .ok (.istore_n 3, 1) := by decide +kernel
theorem d_Dr_redraw_111 : decode b_Dr_redraw 111 = .ok (.iconst 0, 1) := by decide +kernel
theorem d_Dr_redraw_112 : decode b_Dr_redraw 112 = .ok (.istore 4, 2) := by decide +kernel
theorem d_Dr_redraw_114 : decode b_Dr_redraw 114 = .ok (.iload 4, 2) := by decide +kernel
theorem d_Dr_redraw_116 : decode b_Dr_redraw 116 = .ok (.iload_n 3, 1) := by decide +kernel
theorem d_Dr_redraw_117 : decode b_Dr_redraw 117 = .ok (.if_icmp .ge 14, 3) := by decide +kernel
theorem d_Dr_redraw_120 : decode b_Dr_redraw 120 = .ok (.aload_n 0, 1) := by decide +kernel
theorem d_Dr_redraw_121 : decode b_Dr_redraw 121 = .ok (.aload_n 1, 1) := by decide +kernel
theorem d_Dr_redraw_122 : decode b_Dr_redraw 122 = .ok (.invokevirtual 51, 3) := by decide +kernel
theorem d_Dr_redraw_125 : decode b_Dr_redraw 125 = .ok (.iinc 4 1, 3) := by decide +kernel
theorem d_Dr_redraw_128 : decode b_Dr_redraw 128 = .ok (.goto (-14), 3) := by decide +kernel
theorem d_Dr_redraw_131 : decode b_Dr_redraw 131 = .ok (.return_, 1) := by decide +kernel
theorem d_So_below_0 : decode b_So_below 0 = .ok (.aload_n 0, 1) := by decide +kernel
theorem d_So_below_1 : decode b_So_below 1 = .ok (.aload_n 0, 1) := by decide +kernel
theorem d_So_below_2 : decode b_So_below 2 = .ok (.getfield 7, 3) := by decide +kernel
theorem d_So_below_5 : decode b_So_below 5 = .ok (.ldc2_w 13, 3) := by decide +kernel
theorem d_So_below_8 : decode b_So_below 8 = .ok (.lmul, 1) := by decide +kernel
theorem d_So_below_9 : decode b_So_below 9 = .ok (.ldc2_w 15, 3) := by decide +kernel
theorem d_So_below_12 : decode b_So_below 12 = .ok (.ladd, 1) := by decide +kernel
theorem d_So_below_13 : decode b_So_below 13 = .ok (.putfield 7, 3) := by decide +kernel
theorem d_So_below_16 : decode b_So_below 16 = .ok (.iload_n 1, 1) := by decide +kernel
theorem d_So_below_17 : decode b_So_below 17 = .ok (.iconst 1, 1) := by decide +kernel
theorem d_So_below_18 : decode b_So_below 18 = .ok (.if_icmp .ge 7, 3) := by decide +kernel
theorem d_So_below_21 : decode b_So_below 21 = .ok (.iconst 0, 1) := by decide +kernel
theorem d_So_below_22 : decode b_So_below 22 = .ok (.goto 14, 3) := by decide +kernel
theorem d_So_below_25 : decode b_So_below 25 = .ok (.aload_n 0, 1) := by decide +kernel
theorem d_So_below_26 : decode b_So_below 26 = .ok (.getfield 7, 3) := by decide +kernel
theorem d_So_below_29 : decode b_So_below 29 = .ok (.bipush 33, 2) := by decide +kernel
theorem d_So_below_31 : decode b_So_below 31 = .ok (.lushr, 1) := by decide +kernel
theorem d_So_below_32 : decode b_So_below 32 = .ok (.iload_n 1, 1) := by decide +kernel
theorem d_So_below_33 : decode b_So_below 33 = .ok (.i2l, 1) := by decide +kernel
theorem d_So_below_34 : decode b_So_below 34 = .ok (.lrem, 1) := by decide +kernel
theorem d_So_below_35 : decode b_So_below 35 = .ok (.l2i, 1) := by decide +kernel
theorem d_So_below_36 : decode b_So_below 36 = .ok (.ireturn, 1) := by decide +kernel
theorem d_Dr_addThing_0 : decode b_Dr_addThing 0 = .ok (.aload_n 0, 1) := by decide +kernel
theorem d_Dr_addThing_1 : decode b_Dr_addThing 1 = .ok (.iload_n 1, 1) := by decide +kernel
theorem d_Dr_addThing_2 : decode b_Dr_addThing 2 = .ok (.iconst (-1), 1) := by decide +kernel
theorem d_Dr_addThing_3 : decode b_Dr_addThing 3 = .ok (.iconst (-1), 1) := by decide +kernel
theorem d_Dr_addThing_4 : decode b_Dr_addThing 4 = .ok (.iconst 0, 1) := by decide +kernel
theorem d_Dr_addThing_5 : decode b_Dr_addThing 5 = .ok (.iconst 0, 1) := by decide +kernel
theorem d_Dr_addThing_6 : decode b_Dr_addThing 6 = .ok (.invokevirtual 55, 3) := by decide +kernel
theorem d_Dr_addThing_9 : decode b_Dr_addThing 9 = .ok (.return_, 1) := by decide +kernel
theorem d_Dr_add_0 : decode b_Dr_add 0 = .ok (.aload_n 0, 1) := by decide +kernel
theorem d_Dr_add_1 : decode b_Dr_add 1 = .ok (.getfield 15, 3) := by decide +kernel
theorem d_Dr_add_4 : decode b_Dr_add 4 = .ok (.ifCond .lt 12, 3) := by decide +kernel
theorem d_Dr_add_7 : decode b_Dr_add 7 = .ok (.aload_n 0, 1) := by decide +kernel
theorem d_Dr_add_8 : decode b_Dr_add 8 = .ok (.getfield 15, 3) := by decide +kernel
theorem d_Dr_add_11 : decode b_Dr_add 11 = .ok (.bipush 30, 2) := by decide +kernel
theorem d_Dr_add_13 : decode b_Dr_add 13 = .ok (.if_icmp .lt 4, 3) := by decide +kernel
theorem d_Dr_add_16 : decode b_Dr_add 16 = .ok (.return_, 1) := by decide +kernel
theorem d_Dr_add_17 : decode b_Dr_add 17 = .ok (.aload_n 0, 1) := by decide +kernel
theorem d_Dr_add_18 : decode b_Dr_add 18 = .ok (.getfield 24, 3) := by decide +kernel
theorem d_Dr_add_21 : decode b_Dr_add 21 = .ok (.aload_n 0, 1) := by decide +kernel
theorem d_Dr_add_22 : decode b_Dr_add 22 = .ok (.getfield 15, 3) := by decide +kernel
theorem d_Dr_add_25 : decode b_Dr_add 25 = .ok (.iload_n 1, 1) := by decide +kernel
theorem d_Dr_add_26 : decode b_Dr_add 26 = .ok (.iastore, 1) := by decide +kernel
theorem d_Dr_add_27 : decode b_Dr_add 27 = .ok (.aload_n 0, 1) := by decide +kernel
theorem d_Dr_add_28 : decode b_Dr_add 28 = .ok (.getfield 28, 3) := by decide +kernel
theorem d_Dr_add_31 : decode b_Dr_add 31 = .ok (.aload_n 0, 1) := by decide +kernel
theorem d_Dr_add_32 : decode b_Dr_add 32 = .ok (.getfield 15, 3) := by decide +kernel
theorem d_Dr_add_35 : decode b_Dr_add 35 = .ok (.iload_n 2, 1) := by decide +kernel
theorem d_Dr_add_36 : decode b_Dr_add 36 = .ok (.iastore, 1) := by decide +kernel
theorem d_Dr_add_37 : decode b_Dr_add 37 = .ok (.aload_n 0, 1) := by decide +kernel
theorem d_Dr_add_38 : decode b_Dr_add 38 = .ok (.getfield 31, 3) := by decide +kernel
theorem d_Dr_add_41 : decode b_Dr_add 41 = .ok (.aload_n 0, 1) := by decide +kernel
theorem d_Dr_add_42 : decode b_Dr_add 42 = .ok (.getfield 15, 3) := by decide +kernel
theorem d_Dr_add_45 : decode b_Dr_add 45 = .ok (.iload_n 3, 1) := by decide +kernel
theorem d_Dr_add_46 : decode b_Dr_add 46 = .ok (.iastore, 1) := by decide +kernel
theorem d_Dr_add_47 : decode b_Dr_add 47 = .ok (.aload_n 0, 1) := by decide +kernel
theorem d_Dr_add_48 : decode b_Dr_add 48 = .ok (.getfield 34, 3) := by decide +kernel
theorem d_Dr_add_51 : decode b_Dr_add 51 = .ok (.aload_n 0, 1) := by decide +kernel
theorem d_Dr_add_52 : decode b_Dr_add 52 = .ok (.getfield 15, 3) := by decide +kernel
theorem d_Dr_add_55 : decode b_Dr_add 55 = .ok (.iload 4, 2) := by decide +kernel
theorem d_Dr_add_57 : decode b_Dr_add 57 = .ok (.bastore, 1) := by decide +kernel
theorem d_Dr_add_58 : decode b_Dr_add 58 = .ok (.aload_n 0, 1) := by decide +kernel
theorem d_Dr_add_59 : decode b_Dr_add 59 = .ok (.getfield 38, 3) := by decide +kernel
theorem d_Dr_add_62 : decode b_Dr_add 62 = .ok (.aload_n 0, 1) := by decide +kernel
theorem d_Dr_add_63 : decode b_Dr_add 63 = .ok (.getfield 15, 3) := by decide +kernel
theorem d_Dr_add_66 : decode b_Dr_add 66 = .ok (.iload 5, 2) := by decide +kernel
theorem d_Dr_add_68 : decode b_Dr_add 68 = .ok (.bastore, 1) := by decide +kernel
theorem d_Dr_add_69 : decode b_Dr_add 69 = .ok (.aload_n 0, 1) := by decide +kernel
theorem d_Dr_add_70 : decode b_Dr_add 70 = .ok (.dup, 1) := by decide +kernel
theorem d_Dr_add_71 : decode b_Dr_add 71 = .ok (.getfield 15, 3) := by decide +kernel
theorem d_Dr_add_74 : decode b_Dr_add 74 = .ok (.iconst 1, 1) := by decide +kernel
theorem d_Dr_add_75 : decode b_Dr_add 75 = .ok (.iadd, 1) := by decide +kernel
theorem d_Dr_add_76 : decode b_Dr_add 76 = .ok (.putfield 15, 3) := by decide +kernel
theorem d_Dr_add_79 : decode b_Dr_add 79 = .ok (.return_, 1) := by decide +kernel
theorem d_Dr_addAct_0 : decode b_Dr_addAct 0 = .ok (.aload_n 1, 1) := by decide +kernel
theorem d_Dr_addAct_1 : decode b_Dr_addAct 1 = .ok (.aload_n 0, 1) := by decide +kernel
theorem d_Dr_addAct_2 : decode b_Dr_addAct 2 = .ok (.getfield 18, 3) := by decide +kernel
theorem d_Dr_addAct_5 : decode b_Dr_addAct 5 = .ok (.invokevirtual 41, 3) := by decide +kernel
theorem d_Dr_addAct_8 : decode b_Dr_addAct 8 = .ok (.istore_n 2, 1) := by decide +kernel
theorem d_Dr_addAct_9 : decode b_Dr_addAct 9 = .ok (.aload_n 1, 1) := by decide +kernel
theorem d_Dr_addAct_10 : decode b_Dr_addAct 10 = .ok (.aload_n 0, 1) := by decide +kernel
theorem d_Dr_addAct_11 : decode b_Dr_addAct 11 = .ok (.getfield 21, 3) := by decide +kernel
theorem d_Dr_addAct_14 : decode b_Dr_addAct 14 = .ok (.invokevirtual 41, 3) := by decide +kernel
theorem d_Dr_addAct_17 : decode b_Dr_addAct 17 = .ok (.istore_n 3, 1) := by decide +kernel
theorem d_Dr_addAct_18 : decode b_Dr_addAct 18 = .ok (.iconst 1, 1) := by decide +kernel
theorem d_Dr_addAct_19 : decode b_Dr_addAct 19 = .ok (.aload_n 1, 1) := by decide +kernel
theorem d_Dr_addAct_20 : decode b_Dr_addAct 20 = .ok (.iconst 5, 1) := by decide +kernel
theorem d_Dr_addAct_21 : decode b_Dr_addAct 21 = .ok (.invokevirtual 41, 3) := by decide +kernel
theorem d_Dr_addAct_24 : decode b_Dr_addAct 24 = .ok (.iadd, 1) := by decide +kernel
theorem d_Dr_addAct_25 : decode b_Dr_addAct 25 = .ok (.istore 4, 2) := by decide +kernel
theorem d_Dr_addAct_27 : decode b_Dr_addAct 27 = .ok (.aload_n 1, 1) := by decide +kernel
theorem d_Dr_addAct_28 : decode b_Dr_addAct 28 = .ok (.iconst 3, 1) := by decide +kernel
theorem d_Dr_addAct_29 : decode b_Dr_addAct 29 = .ok (.invokevirtual 41, 3) := by decide +kernel
theorem d_Dr_addAct_32 : decode b_Dr_addAct 32 = .ok (.iconst 2, 1) := by decide +kernel
theorem d_Dr_addAct_33 : decode b_Dr_addAct 33 = .ok (.if_icmp .ne 7, 3) := by decide +kernel
theorem d_Dr_addAct_36 : decode b_Dr_addAct 36 = .ok (.iconst 1, 1) := by decide +kernel
theorem d_Dr_addAct_37 : decode b_Dr_addAct 37 = .ok (.goto 4, 3) := by decide +kernel
theorem d_Dr_addAct_40 : decode b_Dr_addAct 40 = .ok (.iconst 0, 1) := by decide +kernel
theorem d_Dr_addAct_41 : decode b_Dr_addAct 41 = .ok (.istore 5, 2) := by decide +kernel
theorem d_Dr_addAct_43 : decode b_Dr_addAct 43 = .ok (.aload_n 1, 1) := by decide +kernel
theorem d_Dr_addAct_44 : decode b_Dr_addAct 44 = .ok (.bipush 6, 2) := by decide +kernel
theorem d_Dr_addAct_46 : decode b_Dr_addAct 46 = .ok (.invokevirtual 41, 3) := by decide +kernel
theorem d_Dr_addAct_49 : decode b_Dr_addAct 49 = .ok (.ifCond .ne 7, 3) := by decide +kernel
theorem d_Dr_addAct_52 : decode b_Dr_addAct 52 = .ok (.iconst 1, 1) := by decide +kernel
theorem d_Dr_addAct_53 : decode b_Dr_addAct 53 = .ok (.goto 4, 3) := by decide +kernel
theorem d_Dr_addAct_56 : decode b_Dr_addAct 56 = .ok (.iconst 0, 1) := by decide +kernel
theorem d_Dr_addAct_57 : decode b_Dr_addAct 57 = .ok (.istore 6, 2) := by decide +kernel
theorem d_Dr_addAct_59 : decode b_Dr_addAct 59 = .ok (.aload_n 0, 1) := by decide +kernel
theorem d_Dr_addAct_60 : decode b_Dr_addAct 60 = .ok (.iload 4, 2) := by decide +kernel
theorem d_Dr_addAct_62 : decode b_Dr_addAct 62 = .ok (.iload_n 2, 1) := by decide +kernel
theorem d_Dr_addAct_63 : decode b_Dr_addAct 63 = .ok (.iload_n 3, 1) := by decide +kernel
theorem d_Dr_addAct_64 : decode b_Dr_addAct 64 = .ok (.iload 5, 2) := by decide +kernel
theorem d_Dr_addAct_66 : decode b_Dr_addAct 66 = .ok (.iload 6, 2) := by decide +kernel
theorem d_Dr_addAct_68 : decode b_Dr_addAct 68 = .ok (.invokevirtual 55, 3) := by decide +kernel
theorem d_Dr_addAct_71 : decode b_Dr_addAct 71 = .ok (.return_, 1) := by decide +kernel
theorem d_SD_count_0 : decode b_SD_count 0 = .ok (.iload_n 1, 1) := by decide +kernel
theorem d_SD_count_1 : decode b_SD_count 1 = .ok (.tableswitch 111 0 7 #[47, 55, 63, 71, 79, 87, 95, 103], 47) := by decide +kernel
theorem d_SD_count_48 : decode b_SD_count 48 = .ok (.aload_n 0, 1) := by decide +kernel
theorem d_SD_count_49 : decode b_SD_count 49 = .ok (.getfield 26, 3) := by decide +kernel
theorem d_SD_count_52 : decode b_SD_count 52 = .ok (.invokevirtual 64, 3) := by decide +kernel
theorem d_SD_count_55 : decode b_SD_count 55 = .ok (.ireturn, 1) := by decide +kernel
theorem d_SD_count_56 : decode b_SD_count 56 = .ok (.aload_n 0, 1) := by decide +kernel
theorem d_SD_count_57 : decode b_SD_count 57 = .ok (.getfield 26, 3) := by decide +kernel
theorem d_SD_count_60 : decode b_SD_count 60 = .ok (.invokevirtual 163, 3) := by decide +kernel
theorem d_SD_count_63 : decode b_SD_count 63 = .ok (.ireturn, 1) := by decide +kernel
theorem d_SD_count_64 : decode b_SD_count 64 = .ok (.aload_n 0, 1) := by decide +kernel
theorem d_SD_count_65 : decode b_SD_count 65 = .ok (.getfield 26, 3) := by decide +kernel
theorem d_SD_count_68 : decode b_SD_count 68 = .ok (.invokevirtual 166, 3) := by decide +kernel
theorem d_SD_count_71 : decode b_SD_count 71 = .ok (.ireturn, 1) := by decide +kernel
theorem d_SD_count_72 : decode b_SD_count 72 = .ok (.aload_n 0, 1) := by decide +kernel
theorem d_SD_count_73 : decode b_SD_count 73 = .ok (.getfield 26, 3) := by decide +kernel
theorem d_SD_count_76 : decode b_SD_count 76 = .ok (.invokevirtual 169, 3) := by decide +kernel
theorem d_SD_count_79 : decode b_SD_count 79 = .ok (.ireturn, 1) := by decide +kernel
theorem d_SD_count_80 : decode b_SD_count 80 = .ok (.aload_n 0, 1) := by decide +kernel
theorem d_SD_count_81 : decode b_SD_count 81 = .ok (.getfield 26, 3) := by decide +kernel
theorem d_SD_count_84 : decode b_SD_count 84 = .ok (.invokevirtual 172, 3) := by decide +kernel
theorem d_SD_count_87 : decode b_SD_count 87 = .ok (.ireturn, 1) := by decide +kernel
theorem d_SD_count_88 : decode b_SD_count 88 = .ok (.aload_n 0, 1) := by decide +kernel
theorem d_SD_count_89 : decode b_SD_count 89 = .ok (.getfield 30, 3) := by decide +kernel
theorem d_SD_count_92 : decode b_SD_count 92 = .ok (.invokevirtual 130, 3) := by decide +kernel
theorem d_SD_count_95 : decode b_SD_count 95 = .ok (.ireturn, 1) := by decide +kernel
theorem d_SD_count_96 : decode b_SD_count 96 = .ok (.aload_n 0, 1) := by decide +kernel
theorem d_SD_count_97 : decode b_SD_count 97 = .ok (.getfield 30, 3) := by decide +kernel
theorem d_SD_count_100 : decode b_SD_count 100 = .ok (.invokevirtual 175, 3) := by decide +kernel
theorem d_SD_count_103 : decode b_SD_count 103 = .ok (.ireturn, 1) := by decide +kernel
theorem d_SD_count_104 : decode b_SD_count 104 = .ok (.aload_n 0, 1) := by decide +kernel
theorem d_SD_count_105 : decode b_SD_count 105 = .ok (.getfield 26, 3) := by decide +kernel
theorem d_SD_count_108 : decode b_SD_count 108 = .ok (.invokevirtual 178, 3) := by decide +kernel
theorem d_SD_count_111 : decode b_SD_count 111 = .ok (.ireturn, 1) := by decide +kernel
theorem d_SD_count_112 : decode b_SD_count 112 = .ok (.iconst (-1), 1) := by decide +kernel
theorem d_SD_count_113 : decode b_SD_count 113 = .ok (.ireturn, 1) := by decide +kernel
theorem d_Dr_actCount_0 : decode b_Dr_actCount 0 = .ok (.aload_n 0, 1) := by decide +kernel
theorem d_Dr_actCount_1 : decode b_Dr_actCount 1 = .ok (.getfield 15, 3) := by decide +kernel
theorem d_Dr_actCount_4 : decode b_Dr_actCount 4 = .ok (.aload_n 0, 1) := by decide +kernel
theorem d_Dr_actCount_5 : decode b_Dr_actCount 5 = .ok (.getfield 18, 3) := by decide +kernel
theorem d_Dr_actCount_8 : decode b_Dr_actCount 8 = .ok (.isub, 1) := by decide +kernel
theorem d_Dr_actCount_9 : decode b_Dr_actCount 9 = .ok (.aload_n 0, 1) := by decide +kernel
theorem d_Dr_actCount_10 : decode b_Dr_actCount 10 = .ok (.getfield 21, 3) := by decide +kernel
theorem d_Dr_actCount_13 : decode b_Dr_actCount 13 = .ok (.isub, 1) := by decide +kernel
theorem d_Dr_actCount_14 : decode b_Dr_actCount 14 = .ok (.ireturn, 1) := by decide +kernel
theorem d_Dr_lieCount_0 : decode b_Dr_lieCount 0 = .ok (.iconst 0, 1) := by decide +kernel
theorem d_Dr_lieCount_1 : decode b_Dr_lieCount 1 = .ok (.istore_n 1, 1) := by decide +kernel
theorem d_Dr_lieCount_2 : decode b_Dr_lieCount 2 = .ok (.iconst 0, 1) := by decide +kernel
theorem d_Dr_lieCount_3 : decode b_Dr_lieCount 3 = .ok (.istore_n 2, 1) := by decide +kernel
theorem d_Dr_lieCount_4 : decode b_Dr_lieCount 4 = .ok (.iload_n 2, 1) := by decide +kernel
theorem d_Dr_lieCount_5 : decode b_Dr_lieCount 5 = .ok (.aload_n 0, 1) := by decide +kernel
theorem d_Dr_lieCount_6 : decode b_Dr_lieCount 6 = .ok (.getfield 15, 3) := by decide +kernel
theorem d_Dr_lieCount_9 : decode b_Dr_lieCount 9 = .ok (.if_icmp .ge 20, 3) := by decide +kernel
theorem d_Dr_lieCount_12 : decode b_Dr_lieCount 12 = .ok (.aload_n 0, 1) := by decide +kernel
theorem d_Dr_lieCount_13 : decode b_Dr_lieCount 13 = .ok (.iload_n 2, 1) := by decide +kernel
theorem d_Dr_lieCount_14 : decode b_Dr_lieCount 14 = .ok (.invokevirtual 59, 3) := by decide +kernel
theorem d_Dr_lieCount_17 : decode b_Dr_lieCount 17 = .ok (.ifCond .eq 6, 3) := by decide +kernel
theorem d_Dr_lieCount_20 : decode b_Dr_lieCount 20 = .ok (.iinc 1 1, 3) := by decide +kernel
theorem d_Dr_lieCount_23 : decode b_Dr_lieCount 23 = .ok (.iinc 2 1, 3) := by decide +kernel
theorem d_Dr_lieCount_26 : decode b_Dr_lieCount 26 = .ok (.goto (-22), 3) := by decide +kernel
theorem d_Dr_lieCount_29 : decode b_Dr_lieCount 29 = .ok (.iload_n 1, 1) := by decide +kernel
theorem d_Dr_lieCount_30 : decode b_Dr_lieCount 30 = .ok (.ireturn, 1) := by decide +kernel
theorem d_Re_countingActs_0 : decode b_Re_countingActs 0 = .ok (.iconst 0, 1) := by decide +kernel
theorem d_Re_countingActs_1 : decode b_Re_countingActs 1 = .ok (.istore_n 1, 1) := by decide +kernel
theorem d_Re_countingActs_2 : decode b_Re_countingActs 2 = .ok (.iconst 0, 1) := by decide +kernel
theorem d_Re_countingActs_3 : decode b_Re_countingActs 3 = .ok (.istore_n 2, 1) := by decide +kernel
theorem d_Re_countingActs_4 : decode b_Re_countingActs 4 = .ok (.iload_n 2, 1) := by decide +kernel
theorem d_Re_countingActs_5 : decode b_Re_countingActs 5 = .ok (.aload_n 0, 1) := by decide +kernel
theorem d_Re_countingActs_6 : decode b_Re_countingActs 6 = .ok (.getfield 9, 3) := by decide +kernel
theorem d_Re_countingActs_9 : decode b_Re_countingActs 9 = .ok (.invokevirtual 41, 3) := by decide +kernel
theorem d_Re_countingActs_12 : decode b_Re_countingActs 12 = .ok (.if_icmp .ge 20, 3) := by decide +kernel
theorem d_Re_countingActs_15 : decode b_Re_countingActs 15 = .ok (.aload_n 0, 1) := by decide +kernel
theorem d_Re_countingActs_16 : decode b_Re_countingActs 16 = .ok (.iload_n 2, 1) := by decide +kernel
theorem d_Re_countingActs_17 : decode b_Re_countingActs 17 = .ok (.invokevirtual 45, 3) := by decide +kernel
theorem d_Re_countingActs_20 : decode b_Re_countingActs 20 = .ok (.ifCond .eq 6, 3) := by decide +kernel
theorem d_Re_countingActs_23 : decode b_Re_countingActs 23 = .ok (.iinc 1 1, 3) := by decide +kernel
theorem d_Re_countingActs_26 : decode b_Re_countingActs 26 = .ok (.iinc 2 1, 3) := by decide +kernel
theorem d_Re_countingActs_29 : decode b_Re_countingActs 29 = .ok (.goto (-25), 3) := by decide +kernel
theorem d_Re_countingActs_32 : decode b_Re_countingActs 32 = .ok (.iload_n 1, 1) := by decide +kernel
theorem d_Re_countingActs_33 : decode b_Re_countingActs 33 = .ok (.ireturn, 1) := by decide +kernel
theorem d_Dr_drawnSize_0 : decode b_Dr_drawnSize 0 = .ok (.aload_n 0, 1) := by decide +kernel
theorem d_Dr_drawnSize_1 : decode b_Dr_drawnSize 1 = .ok (.getfield 9, 3) := by decide +kernel
theorem d_Dr_drawnSize_4 : decode b_Dr_drawnSize 4 = .ok (.ireturn, 1) := by decide +kernel
theorem d_SD_leaveOutInOneRound_0 : decode b_SD_leaveOutInOneRound 0 = .ok (.iconst 0, 1) := by decide +kernel
theorem d_SD_leaveOutInOneRound_1 : decode b_SD_leaveOutInOneRound 1 = .ok (.istore_n 1, 1) := by decide +kernel
theorem d_SD_leaveOutInOneRound_2 : decode b_SD_leaveOutInOneRound 2 = .ok (.aload_n 0, 1) := by decide +kernel
theorem d_SD_leaveOutInOneRound_3 : decode b_SD_leaveOutInOneRound 3 = .ok (.getfield 26, 3) := by decide +kernel
theorem d_SD_leaveOutInOneRound_6 : decode b_SD_leaveOutInOneRound 6 = .ok (.invokevirtual 64, 3) := by decide +kernel
theorem d_SD_leaveOutInOneRound_9 : decode b_SD_leaveOutInOneRound 9 = .ok (.iconst 1, 1) := by decide +kernel
theorem d_SD_leaveOutInOneRound_10 : decode b_SD_leaveOutInOneRound 10 = .ok (.isub, 1) := by decide +kernel
theorem d_SD_leaveOutInOneRound_11 : decode b_SD_leaveOutInOneRound 11 = .ok (.istore_n 2, 1) := by decide +kernel
theorem d_SD_leaveOutInOneRound_12 : decode b_SD_leaveOutInOneRound 12 = .ok (.iload_n 2, 1) := by decide +kernel
theorem d_SD_leaveOutInOneRound_13 : decode b_SD_leaveOutInOneRound 13 = .ok (.ifCond .lt 57, 3) := by decide +kernel
theorem d_SD_leaveOutInOneRound_16 : decode b_SD_leaveOutInOneRound 16 = .ok (.aload_n 0, 1) := by decide +kernel
theorem d_SD_leaveOutInOneRound_17 : decode b_SD_leaveOutInOneRound 17 = .ok (.getfield 30, 3) := by decide +kernel
theorem d_SD_leaveOutInOneRound_20 : decode b_SD_leaveOutInOneRound 20 = .ok (.iload_n 2, 1) := by decide +kernel
theorem d_SD_leaveOutInOneRound_21 : decode b_SD_leaveOutInOneRound 21 = .ok (.invokevirtual 104, 3) := by decide +kernel
theorem d_SD_leaveOutInOneRound_24 : decode b_SD_leaveOutInOneRound 24 = .ok (.ifCond .eq 40, 3) := by decide +kernel
theorem d_SD_leaveOutInOneRound_27 : decode b_SD_leaveOutInOneRound 27 = .ok (.aload_n 0, 1) := by decide +kernel
theorem d_SD_leaveOutInOneRound_28 : decode b_SD_leaveOutInOneRound 28 = .ok (.getfield 30, 3) := by decide +kernel
theorem d_SD_leaveOutInOneRound_31 : decode b_SD_leaveOutInOneRound 31 = .ok (.iload_n 2, 1) := by decide +kernel
theorem d_SD_leaveOutInOneRound_32 : decode b_SD_leaveOutInOneRound 32 = .ok (.iconst 1, 1) := by decide +kernel
theorem d_SD_leaveOutInOneRound_33 : decode b_SD_leaveOutInOneRound 33 = .ok (.invokevirtual 112, 3) := by decide +kernel
theorem d_SD_leaveOutInOneRound_36 : decode b_SD_leaveOutInOneRound 36 = .ok (.aload_n 0, 1) := by decide +kernel
theorem d_SD_leaveOutInOneRound_37 : decode b_SD_leaveOutInOneRound 37 = .ok (.invokevirtual 116, 3) := by decide +kernel
theorem d_SD_leaveOutInOneRound_40 : decode b_SD_leaveOutInOneRound 40 = .ok (.istore_n 3, 1) := by decide +kernel
theorem d_SD_leaveOutInOneRound_41 : decode b_SD_leaveOutInOneRound 41 = .ok (.aload_n 0, 1) := by decide +kernel
theorem d_SD_leaveOutInOneRound_42 : decode b_SD_leaveOutInOneRound 42 = .ok (.getfield 30, 3) := by decide +kernel
theorem d_SD_leaveOutInOneRound_45 : decode b_SD_leaveOutInOneRound 45 = .ok (.iload_n 2, 1) := by decide +kernel
theorem d_SD_leaveOutInOneRound_46 : decode b_SD_leaveOutInOneRound 46 = .ok (.iload_n 3, 1) := by decide +kernel
theorem d_SD_leaveOutInOneRound_47 : decode b_SD_leaveOutInOneRound 47 = .ok (.invokevirtual 112, 3) := by decide +kernel
theorem d_SD_leaveOutInOneRound_50 : decode b_SD_leaveOutInOneRound 50 = .ok (.iload_n 1, 1) := by decide +kernel
theorem d_SD_leaveOutInOneRound_51 : decode b_SD_leaveOutInOneRound 51 = .ok (.ifCond .ne 7, 3) := by decide +kernel
theorem d_SD_leaveOutInOneRound_54 : decode b_SD_leaveOutInOneRound 54 = .ok (.iload_n 3, 1) := by decide +kernel
theorem d_SD_leaveOutInOneRound_55 : decode b_SD_leaveOutInOneRound 55 = .ok (.ifCond .eq 7, 3) := by decide +kernel
theorem d_SD_leaveOutInOneRound_58 : decode b_SD_leaveOutInOneRound 58 = .ok (.iconst 1, 1) := by decide +kernel
theorem d_SD_leaveOutInOneRound_59 : decode b_SD_leaveOutInOneRound 59 = .ok (.goto 4, 3) := by decide +kernel
theorem d_SD_leaveOutInOneRound_62 : decode b_SD_leaveOutInOneRound 62 = .ok (.iconst 0, 1) := by decide +kernel
theorem d_SD_leaveOutInOneRound_63 : decode b_SD_leaveOutInOneRound 63 = .ok (.istore_n 1, 1) := by decide +kernel
theorem d_SD_leaveOutInOneRound_64 : decode b_SD_leaveOutInOneRound 64 = .ok (.iinc 2 (-1), 3) := by decide +kernel
theorem d_SD_leaveOutInOneRound_67 : decode b_SD_leaveOutInOneRound 67 = .ok (.goto (-55), 3) := by decide +kernel
theorem d_SD_leaveOutInOneRound_70 : decode b_SD_leaveOutInOneRound 70 = .ok (.iload_n 1, 1) := by decide +kernel
theorem d_SD_leaveOutInOneRound_71 : decode b_SD_leaveOutInOneRound 71 = .ok (.ireturn, 1) := by decide +kernel
theorem d_Dr_hasThePartsOf_0 : decode b_Dr_hasThePartsOf 0 = .ok (.aload_n 0, 1) := by decide +kernel
theorem d_Dr_hasThePartsOf_1 : decode b_Dr_hasThePartsOf 1 = .ok (.getfield 15, 3) := by decide +kernel
theorem d_Dr_hasThePartsOf_4 : decode b_Dr_hasThePartsOf 4 = .ok (.aload_n 1, 1) := by decide +kernel
theorem d_Dr_hasThePartsOf_5 : decode b_Dr_hasThePartsOf 5 = .ok (.getfield 15, 3) := by decide +kernel
theorem d_Dr_hasThePartsOf_8 : decode b_Dr_hasThePartsOf 8 = .ok (.if_icmp .ne 25, 3) := by decide +kernel
theorem d_Dr_hasThePartsOf_11 : decode b_Dr_hasThePartsOf 11 = .ok (.aload_n 0, 1) := by decide +kernel
theorem d_Dr_hasThePartsOf_12 : decode b_Dr_hasThePartsOf 12 = .ok (.getfield 18, 3) := by decide +kernel
theorem d_Dr_hasThePartsOf_15 : decode b_Dr_hasThePartsOf 15 = .ok (.aload_n 1, 1) := by decide +kernel
theorem d_Dr_hasThePartsOf_16 : decode b_Dr_hasThePartsOf 16 = .ok (.getfield 18, 3) := by decide +kernel
theorem d_Dr_hasThePartsOf_19 : decode b_Dr_hasThePartsOf 19 = .ok (.if_icmp .ne 14, 3) := by decide +kernel
theorem d_Dr_hasThePartsOf_22 : decode b_Dr_hasThePartsOf 22 = .ok (.aload_n 0, 1) := by decide +kernel
theorem d_Dr_hasThePartsOf_23 : decode b_Dr_hasThePartsOf 23 = .ok (.getfield 21, 3) := by decide +kernel
theorem d_Dr_hasThePartsOf_26 : decode b_Dr_hasThePartsOf 26 = .ok (.aload_n 1, 1) := by decide +kernel
theorem d_Dr_hasThePartsOf_27 : decode b_Dr_hasThePartsOf 27 = .ok (.getfield 21, 3) := by decide +kernel
theorem d_Dr_hasThePartsOf_30 : decode b_Dr_hasThePartsOf 30 = .ok (.if_icmp .eq 5, 3) := by decide +kernel
theorem d_Dr_hasThePartsOf_33 : decode b_Dr_hasThePartsOf 33 = .ok (.iconst 0, 1) := by decide +kernel
theorem d_Dr_hasThePartsOf_34 : decode b_Dr_hasThePartsOf 34 = .ok (.ireturn, 1) := by decide +kernel
theorem d_Dr_hasThePartsOf_35 : decode b_Dr_hasThePartsOf 35 = .ok (.iconst 0, 1) := by decide +kernel
theorem d_Dr_hasThePartsOf_36 : decode b_Dr_hasThePartsOf 36 = .ok (.istore_n 2, 1) := by decide +kernel
theorem d_Dr_hasThePartsOf_37 : decode b_Dr_hasThePartsOf 37 = .ok (.iload_n 2, 1) := by decide +kernel
theorem d_Dr_hasThePartsOf_38 : decode b_Dr_hasThePartsOf 38 = .ok (.aload_n 0, 1) := by decide +kernel
theorem d_Dr_hasThePartsOf_39 : decode b_Dr_hasThePartsOf 39 = .ok (.getfield 15, 3) := by decide +kernel
theorem d_Dr_hasThePartsOf_42 : decode b_Dr_hasThePartsOf 42 = .ok (.if_icmp .ge 20, 3) := by decide +kernel
theorem d_Dr_hasThePartsOf_45 : decode b_Dr_hasThePartsOf 45 = .ok (.aload_n 0, 1) := by decide +kernel
theorem d_Dr_hasThePartsOf_46 : decode b_Dr_hasThePartsOf 46 = .ok (.iload_n 2, 1) := by decide +kernel
theorem d_Dr_hasThePartsOf_47 : decode b_Dr_hasThePartsOf 47 = .ok (.aload_n 1, 1) := by decide +kernel
theorem d_Dr_hasThePartsOf_48 : decode b_Dr_hasThePartsOf 48 = .ok (.invokevirtual 69, 3) := by decide +kernel
theorem d_Dr_hasThePartsOf_51 : decode b_Dr_hasThePartsOf 51 = .ok (.ifCond .ne 5, 3) := by decide +kernel
theorem d_Dr_hasThePartsOf_54 : decode b_Dr_hasThePartsOf 54 = .ok (.iconst 0, 1) := by decide +kernel
theorem d_Dr_hasThePartsOf_55 : decode b_Dr_hasThePartsOf 55 = .ok (.ireturn, 1) := by decide +kernel
theorem d_Dr_hasThePartsOf_56 : decode b_Dr_hasThePartsOf 56 = .ok (.iinc 2 1, 3) := by decide +kernel
theorem d_Dr_hasThePartsOf_59 : decode b_Dr_hasThePartsOf 59 = .ok (.goto (-22), 3) := by decide +kernel
theorem d_Dr_hasThePartsOf_62 : decode b_Dr_hasThePartsOf 62 = .ok (.iconst 1, 1) := by decide +kernel
theorem d_Dr_hasThePartsOf_63 : decode b_Dr_hasThePartsOf 63 = .ok (.ireturn, 1) := by decide +kernel
theorem d_Dr_isPartLike_0 : decode b_Dr_isPartLike 0 = .ok (.aload_n 0, 1) := by decide +kernel
theorem d_Dr_isPartLike_1 : decode b_Dr_isPartLike 1 = .ok (.iload_n 1, 1) := by decide +kernel
theorem d_Dr_isPartLike_2 : decode b_Dr_isPartLike 2 = .ok (.invokevirtual 73, 3) := by decide +kernel
theorem d_Dr_isPartLike_5 : decode b_Dr_isPartLike 5 = .ok (.aload_n 2, 1) := by decide +kernel
theorem d_Dr_isPartLike_6 : decode b_Dr_isPartLike 6 = .ok (.iload_n 1, 1) := by decide +kernel
theorem d_Dr_isPartLike_7 : decode b_Dr_isPartLike 7 = .ok (.invokevirtual 73, 3) := by decide +kernel
theorem d_Dr_isPartLike_10 : decode b_Dr_isPartLike 10 = .ok (.if_icmp .ne 59, 3) := by decide +kernel
theorem d_Dr_isPartLike_13 : decode b_Dr_isPartLike 13 = .ok (.aload_n 0, 1) := by decide +kernel
theorem d_Dr_isPartLike_14 : decode b_Dr_isPartLike 14 = .ok (.iload_n 1, 1) := by decide +kernel
theorem d_Dr_isPartLike_15 : decode b_Dr_isPartLike 15 = .ok (.invokevirtual 76, 3) := by decide +kernel
theorem d_Dr_isPartLike_18 : decode b_Dr_isPartLike 18 = .ok (.aload_n 2, 1) := by decide +kernel
theorem d_Dr_isPartLike_19 : decode b_Dr_isPartLike 19 = .ok (.iload_n 1, 1) := by decide +kernel
theorem d_Dr_isPartLike_20 : decode b_Dr_isPartLike 20 = .ok (.invokevirtual 76, 3) := by decide +kernel
theorem d_Dr_isPartLike_23 : decode b_Dr_isPartLike 23 = .ok (.if_icmp .ne 46, 3) := by decide +kernel
theorem d_Dr_isPartLike_26 : decode b_Dr_isPartLike 26 = .ok (.aload_n 0, 1) := by decide +kernel
theorem d_Dr_isPartLike_27 : decode b_Dr_isPartLike 27 = .ok (.iload_n 1, 1) := by decide +kernel
theorem d_Dr_isPartLike_28 : decode b_Dr_isPartLike 28 = .ok (.invokevirtual 79, 3) := by decide +kernel
theorem d_Dr_isPartLike_31 : decode b_Dr_isPartLike 31 = .ok (.aload_n 2, 1) := by decide +kernel
theorem d_Dr_isPartLike_32 : decode b_Dr_isPartLike 32 = .ok (.iload_n 1, 1) := by decide +kernel
theorem d_Dr_isPartLike_33 : decode b_Dr_isPartLike 33 = .ok (.invokevirtual 79, 3) := by decide +kernel
theorem d_Dr_isPartLike_36 : decode b_Dr_isPartLike 36 = .ok (.if_icmp .ne 33, 3) := by decide +kernel
theorem d_Dr_isPartLike_39 : decode b_Dr_isPartLike 39 = .ok (.aload_n 0, 1) := by decide +kernel
theorem d_Dr_isPartLike_40 : decode b_Dr_isPartLike 40 = .ok (.iload_n 1, 1) := by decide +kernel
theorem d_Dr_isPartLike_41 : decode b_Dr_isPartLike 41 = .ok (.invokevirtual 82, 3) := by decide +kernel
theorem d_Dr_isPartLike_44 : decode b_Dr_isPartLike 44 = .ok (.aload_n 2, 1) := by decide +kernel
theorem d_Dr_isPartLike_45 : decode b_Dr_isPartLike 45 = .ok (.iload_n 1, 1) := by decide +kernel
theorem d_Dr_isPartLike_46 : decode b_Dr_isPartLike 46 = .ok (.invokevirtual 82, 3) := by decide +kernel
theorem d_Dr_isPartLike_49 : decode b_Dr_isPartLike 49 = .ok (.if_icmp .ne 20, 3) := by decide +kernel
theorem d_Dr_isPartLike_52 : decode b_Dr_isPartLike 52 = .ok (.aload_n 0, 1) := by decide +kernel
theorem d_Dr_isPartLike_53 : decode b_Dr_isPartLike 53 = .ok (.iload_n 1, 1) := by decide +kernel
theorem d_Dr_isPartLike_54 : decode b_Dr_isPartLike 54 = .ok (.invokevirtual 59, 3) := by decide +kernel
theorem d_Dr_isPartLike_57 : decode b_Dr_isPartLike 57 = .ok (.aload_n 2, 1) := by decide +kernel
theorem d_Dr_isPartLike_58 : decode b_Dr_isPartLike 58 = .ok (.iload_n 1, 1) := by decide +kernel
theorem d_Dr_isPartLike_59 : decode b_Dr_isPartLike 59 = .ok (.invokevirtual 59, 3) := by decide +kernel
theorem d_Dr_isPartLike_62 : decode b_Dr_isPartLike 62 = .ok (.if_icmp .ne 7, 3) := by decide +kernel
theorem d_Dr_isPartLike_65 : decode b_Dr_isPartLike 65 = .ok (.iconst 1, 1) := by decide +kernel
theorem d_Dr_isPartLike_66 : decode b_Dr_isPartLike 66 = .ok (.goto 4, 3) := by decide +kernel
theorem d_Dr_isPartLike_69 : decode b_Dr_isPartLike 69 = .ok (.iconst 0, 1) := by decide +kernel
theorem d_Dr_isPartLike_70 : decode b_Dr_isPartLike 70 = .ok (.ireturn, 1) := by decide +kernel
theorem d_Re_partLeftAt_0 : decode b_Re_partLeftAt 0 = .ok (.iconst 0, 1) := by decide +kernel
theorem d_Re_partLeftAt_1 : decode b_Re_partLeftAt 1 = .ok (.istore_n 2, 1) := by decide +kernel
theorem d_Re_partLeftAt_2 : decode b_Re_partLeftAt 2 = .ok (.iconst 0, 1) := by decide +kernel
theorem d_Re_partLeftAt_3 : decode b_Re_partLeftAt 3 = .ok (.istore_n 3, 1) := by decide +kernel
theorem d_Re_partLeftAt_4 : decode b_Re_partLeftAt 4 = .ok (.iload_n 3, 1) := by decide +kernel
theorem d_Re_partLeftAt_5 : decode b_Re_partLeftAt 5 = .ok (.aload_n 0, 1) := by decide +kernel
theorem d_Re_partLeftAt_6 : decode b_Re_partLeftAt 6 = .ok (.getfield 9, 3) := by decide +kernel
theorem d_Re_partLeftAt_9 : decode b_Re_partLeftAt 9 = .ok (.invokevirtual 41, 3) := by decide +kernel
theorem d_Re_partLeftAt_12 : decode b_Re_partLeftAt 12 = .ok (.if_icmp .ge 27, 3) := by decide +kernel
theorem d_Re_partLeftAt_15 : decode b_Re_partLeftAt 15 = .ok (.aload_n 0, 1) := by decide +kernel
theorem d_Re_partLeftAt_16 : decode b_Re_partLeftAt 16 = .ok (.iload_n 3, 1) := by decide +kernel
theorem d_Re_partLeftAt_17 : decode b_Re_partLeftAt 17 = .ok (.invokevirtual 25, 3) := by decide +kernel
theorem d_Re_partLeftAt_20 : decode b_Re_partLeftAt 20 = .ok (.ifCond .eq 13, 3) := by decide +kernel
theorem d_Re_partLeftAt_23 : decode b_Re_partLeftAt 23 = .ok (.iload_n 2, 1) := by decide +kernel
theorem d_Re_partLeftAt_24 : decode b_Re_partLeftAt 24 = .ok (.iload_n 1, 1) := by decide +kernel
theorem d_Re_partLeftAt_25 : decode b_Re_partLeftAt 25 = .ok (.if_icmp .ne 5, 3) := by decide +kernel
theorem d_Re_partLeftAt_28 : decode b_Re_partLeftAt 28 = .ok (.iload_n 3, 1) := by decide +kernel
theorem d_Re_partLeftAt_29 : decode b_Re_partLeftAt 29 = .ok (.ireturn, 1) := by decide +kernel
theorem d_Re_partLeftAt_30 : decode b_Re_partLeftAt 30 = .ok (.iinc 2 1, 3) := by decide +kernel
theorem d_Re_partLeftAt_33 : decode b_Re_partLeftAt 33 = .ok (.iinc 3 1, 3) := by decide +kernel
theorem d_Re_partLeftAt_36 : decode b_Re_partLeftAt 36 = .ok (.goto (-32), 3) := by decide +kernel
theorem d_Re_partLeftAt_39 : decode b_Re_partLeftAt 39 = .ok (.iconst (-1), 1) := by decide +kernel
theorem d_Re_partLeftAt_40 : decode b_Re_partLeftAt 40 = .ok (.ireturn, 1) := by decide +kernel
theorem d_Dr_numberOf_0 : decode b_Dr_numberOf 0 = .ok (.aload_n 0, 1) := by decide +kernel
theorem d_Dr_numberOf_1 : decode b_Dr_numberOf 1 = .ok (.iload_n 1, 1) := by decide +kernel
theorem d_Dr_numberOf_2 : decode b_Dr_numberOf 2 = .ok (.invokevirtual 63, 3) := by decide +kernel
theorem d_Dr_numberOf_5 : decode b_Dr_numberOf 5 = .ok (.lookupswitch 36 #[(0, 27), (1, 29)], 27) := by decide +kernel
theorem d_Dr_numberOf_32 : decode b_Dr_numberOf 32 = .ok (.iload_n 1, 1) := by decide +kernel
theorem d_Dr_numberOf_33 : decode b_Dr_numberOf 33 = .ok (.ireturn, 1) := by decide +kernel
theorem d_Dr_numberOf_34 : decode b_Dr_numberOf 34 = .ok (.iload_n 1, 1) := by decide +kernel
theorem d_Dr_numberOf_35 : decode b_Dr_numberOf 35 = .ok (.aload_n 0, 1) := by decide +kernel
theorem d_Dr_numberOf_36 : decode b_Dr_numberOf 36 = .ok (.getfield 18, 3) := by decide +kernel
theorem d_Dr_numberOf_39 : decode b_Dr_numberOf 39 = .ok (.isub, 1) := by decide +kernel
theorem d_Dr_numberOf_40 : decode b_Dr_numberOf 40 = .ok (.ireturn, 1) := by decide +kernel
theorem d_Dr_numberOf_41 : decode b_Dr_numberOf 41 = .ok (.iload_n 1, 1) := by decide +kernel
theorem d_Dr_numberOf_42 : decode b_Dr_numberOf 42 = .ok (.aload_n 0, 1) := by decide +kernel
theorem d_Dr_numberOf_43 : decode b_Dr_numberOf 43 = .ok (.getfield 18, 3) := by decide +kernel
theorem d_Dr_numberOf_46 : decode b_Dr_numberOf 46 = .ok (.isub, 1) := by decide +kernel
theorem d_Dr_numberOf_47 : decode b_Dr_numberOf 47 = .ok (.aload_n 0, 1) := by decide +kernel
theorem d_Dr_numberOf_48 : decode b_Dr_numberOf 48 = .ok (.getfield 21, 3) := by decide +kernel
theorem d_Dr_numberOf_51 : decode b_Dr_numberOf 51 = .ok (.isub, 1) := by decide +kernel
theorem d_Dr_numberOf_52 : decode b_Dr_numberOf 52 = .ok (.ireturn, 1) := by decide +kernel
theorem d_St_heaviestAt_0 : decode b_St_heaviestAt 0 = .ok (.aload_n 0, 1) := by decide +kernel
theorem d_St_heaviestAt_1 : decode b_St_heaviestAt 1 = .ok (.getfield 9, 3) := by decide +kernel
theorem d_St_heaviestAt_4 : decode b_St_heaviestAt 4 = .ok (.iload_n 1, 1) := by decide +kernel
theorem d_St_heaviestAt_5 : decode b_St_heaviestAt 5 = .ok (.invokevirtual 67, 3) := by decide +kernel
theorem d_St_heaviestAt_8 : decode b_St_heaviestAt 8 = .ok (.ifCond .eq 12, 3) := by decide +kernel
theorem d_St_heaviestAt_11 : decode b_St_heaviestAt 11 = .ok (.aload_n 0, 1) := by decide +kernel
theorem d_St_heaviestAt_12 : decode b_St_heaviestAt 12 = .ok (.getfield 23, 3) := by decide +kernel
theorem d_St_heaviestAt_15 : decode b_St_heaviestAt 15 = .ok (.iload_n 1, 1) := by decide +kernel
theorem d_St_heaviestAt_16 : decode b_St_heaviestAt 16 = .ok (.iaload, 1) := by decide +kernel
theorem d_St_heaviestAt_17 : decode b_St_heaviestAt 17 = .ok (.goto 4, 3) := by decide +kernel
theorem d_St_heaviestAt_20 : decode b_St_heaviestAt 20 = .ok (.iconst 0, 1) := by decide +kernel
theorem d_St_heaviestAt_21 : decode b_St_heaviestAt 21 = .ok (.ireturn, 1) := by decide +kernel
