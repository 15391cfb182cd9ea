theorem dX0_init_0 : decode cX0_init 0 = .ok (.aload_n 0, 1) := by decide +kernel
theorem dX0_init_1 : decode cX0_init 1 = .ok (.invokespecial 1, 3) := by decide +kernel
theorem dX0_init_4 : decode cX0_init 4 = .ok (.aload_n 0, 1) := by decide +kernel
theorem dX0_init_5 : decode cX0_init 5 = .ok (.aload_n 1, 1) := by decide +kernel
theorem dX0_init_6 : decode cX0_init 6 = .ok (.putfield 7, 3) := by decide +kernel
theorem dX0_init_9 : decode cX0_init 9 = .ok (.aload_n 0, 1) := by decide +kernel
theorem dX0_init_10 : decode cX0_init 10 = .ok (.aload_n 2, 1) := by decide +kernel
theorem dX0_init_11 : decode cX0_init 11 = .ok (.putfield 13, 3) := by decide +kernel
theorem dX0_init_14 : decode cX0_init 14 = .ok (.aload_n 0, 1) := by decide +kernel
theorem dX0_init_15 : decode cX0_init 15 = .ok (.iload_n 3, 1) := by decide +kernel
theorem dX0_init_16 : decode cX0_init 16 = .ok (.putfield 16, 3) := by decide +kernel
theorem dX0_init_19 : decode cX0_init 19 = .ok (.aload_n 0, 1) := by decide +kernel
theorem dX0_init_20 : decode cX0_init 20 = .ok (.iload 4, 2) := by decide +kernel
theorem dX0_init_22 : decode cX0_init 22 = .ok (.putfield 20, 3) := by decide +kernel
theorem dX0_init_25 : decode cX0_init 25 = .ok (.return_, 1) := by decide +kernel
theorem dX0_makesOf_0 : decode cX0_makesOf 0 = .ok (.iload_n 1, 1) := by decide +kernel
theorem dX0_makesOf_1 : decode cX0_makesOf 1 = .ok (.aload_n 0, 1) := by decide +kernel
theorem dX0_makesOf_2 : decode cX0_makesOf 2 = .ok (.getfield 20, 3) := by decide +kernel
theorem dX0_makesOf_5 : decode cX0_makesOf 5 = .ok (.iconst (-1), 1) := by decide +kernel
theorem dX0_makesOf_6 : decode cX0_makesOf 6 = .ok (.ixor, 1) := by decide +kernel
theorem dX0_makesOf_7 : decode cX0_makesOf 7 = .ok (.iand, 1) := by decide +kernel
theorem dX0_makesOf_8 : decode cX0_makesOf 8 = .ok (.aload_n 0, 1) := by decide +kernel
theorem dX0_makesOf_9 : decode cX0_makesOf 9 = .ok (.getfield 16, 3) := by decide +kernel
theorem dX0_makesOf_12 : decode cX0_makesOf 12 = .ok (.ior, 1) := by decide +kernel
theorem dX0_makesOf_13 : decode cX0_makesOf 13 = .ok (.ireturn, 1) := by decide +kernel
theorem dX1_init_0 : decode cX1_init 0 = .ok (.aload_n 0, 1) := by decide +kernel
theorem dX1_init_1 : decode cX1_init 1 = .ok (.invokespecial 3, 3) := by decide +kernel
theorem dX1_init_4 : decode cX1_init 4 = .ok (.aload_n 0, 1) := by decide +kernel
theorem dX1_init_5 : decode cX1_init 5 = .ok (.bipush 6, 2) := by decide +kernel
theorem dX1_init_7 : decode cX1_init 7 = .ok (.newarray .int, 2) := by decide +kernel
theorem dX1_init_9 : decode cX1_init 9 = .ok (.putfield 9, 3) := by decide +kernel
theorem dX1_init_12 : decode cX1_init 12 = .ok (.aload_n 0, 1) := by decide +kernel
theorem dX1_init_13 : decode cX1_init 13 = .ok (.bipush 6, 2) := by decide +kernel
theorem dX1_init_15 : decode cX1_init 15 = .ok (.newarray .int, 2) := by decide +kernel
theorem dX1_init_17 : decode cX1_init 17 = .ok (.putfield 15, 3) := by decide +kernel
theorem dX1_init_20 : decode cX1_init 20 = .ok (.aload_n 0, 1) := by decide +kernel
theorem dX1_init_21 : decode cX1_init 21 = .ok (.iload_n 1, 1) := by decide +kernel
theorem dX1_init_22 : decode cX1_init 22 = .ok (.putfield 18, 3) := by decide +kernel
theorem dX1_init_25 : decode cX1_init 25 = .ok (.aload_n 0, 1) := by decide +kernel
theorem dX1_init_26 : decode cX1_init 26 = .ok (.aload_n 2, 1) := by decide +kernel
theorem dX1_init_27 : decode cX1_init 27 = .ok (.getfield 22, 3) := by decide +kernel
theorem dX1_init_30 : decode cX1_init 30 = .ok (.putfield 28, 3) := by decide +kernel
theorem dX1_init_33 : decode cX1_init 33 = .ok (.aload_n 0, 1) := by decide +kernel
theorem dX1_init_34 : decode cX1_init 34 = .ok (.aload_n 2, 1) := by decide +kernel
theorem dX1_init_35 : decode cX1_init 35 = .ok (.putfield 29, 3) := by decide +kernel
theorem dX1_init_38 : decode cX1_init 38 = .ok (.aload_n 0, 1) := by decide +kernel
theorem dX1_init_39 : decode cX1_init 39 = .ok (.iload_n 3, 1) := by decide +kernel
theorem dX1_init_40 : decode cX1_init 40 = .ok (.putfield 33, 3) := by decide +kernel
theorem dX1_init_43 : decode cX1_init 43 = .ok (.aload_n 0, 1) := by decide +kernel
theorem dX1_init_44 : decode cX1_init 44 = .ok (.getfield 9, 3) := by decide +kernel
theorem dX1_init_47 : decode cX1_init 47 = .ok (.iconst (-1), 1) := by decide +kernel
theorem dX1_init_48 : decode cX1_init 48 = .ok (.invokestatic 36, 3) := by decide +kernel
theorem dX1_init_51 : decode cX1_init 51 = .ok (.return_, 1) := by decide +kernel
theorem dX1_calledAtOf_0 : decode cX1_calledAtOf 0 = .ok (.aload_n 1, 1) := by decide +kernel
theorem dX1_calledAtOf_1 : decode cX1_calledAtOf 1 = .ok (.getfield 22, 3) := by decide +kernel
theorem dX1_calledAtOf_4 : decode cX1_calledAtOf 4 = .ok (.aload_n 0, 1) := by decide +kernel
theorem dX1_calledAtOf_5 : decode cX1_calledAtOf 5 = .ok (.getfield 28, 3) := by decide +kernel
theorem dX1_calledAtOf_8 : decode cX1_calledAtOf 8 = .ok (.if_acmp .ne 26, 3) := by decide +kernel
theorem dX1_calledAtOf_11 : decode cX1_calledAtOf 11 = .ok (.aload_n 1, 1) := by decide +kernel
theorem dX1_calledAtOf_12 : decode cX1_calledAtOf 12 = .ok (.getfield 42, 3) := by decide +kernel
theorem dX1_calledAtOf_15 : decode cX1_calledAtOf 15 = .ok (.ifCond .lt 19, 3) := by decide +kernel
theorem dX1_calledAtOf_18 : decode cX1_calledAtOf 18 = .ok (.aload_n 1, 1) := by decide +kernel
theorem dX1_calledAtOf_19 : decode cX1_calledAtOf 19 = .ok (.getfield 42, 3) := by decide +kernel
theorem dX1_calledAtOf_22 : decode cX1_calledAtOf 22 = .ok (.aload_n 0, 1) := by decide +kernel
theorem dX1_calledAtOf_23 : decode cX1_calledAtOf 23 = .ok (.getfield 9, 3) := by decide +kernel
theorem dX1_calledAtOf_26 : decode cX1_calledAtOf 26 = .ok (.arraylength, 1) := by decide +kernel
theorem dX1_calledAtOf_27 : decode cX1_calledAtOf 27 = .ok (.if_icmp .ge 7, 3) := by decide +kernel
theorem dX1_calledAtOf_30 : decode cX1_calledAtOf 30 = .ok (.iconst 1, 1) := by decide +kernel
theorem dX1_calledAtOf_31 : decode cX1_calledAtOf 31 = .ok (.goto 4, 3) := by decide +kernel
theorem dX1_calledAtOf_34 : decode cX1_calledAtOf 34 = .ok (.iconst 0, 1) := by decide +kernel
theorem dX1_calledAtOf_35 : decode cX1_calledAtOf 35 = .ok (.istore_n 2, 1) := by decide +kernel
theorem dX1_calledAtOf_36 : decode cX1_calledAtOf 36 = .ok (.iload_n 2, 1) := by decide +kernel
theorem dX1_calledAtOf_37 : decode cX1_calledAtOf 37 = .ok (.ifCond .eq 15, 3) := by decide +kernel
theorem dX1_calledAtOf_40 : decode cX1_calledAtOf 40 = .ok (.aload_n 0, 1) := by decide +kernel
theorem dX1_calledAtOf_41 : decode cX1_calledAtOf 41 = .ok (.getfield 9, 3) := by decide +kernel
theorem dX1_calledAtOf_44 : decode cX1_calledAtOf 44 = .ok (.aload_n 1, 1) := by decide +kernel
theorem dX1_calledAtOf_45 : decode cX1_calledAtOf 45 = .ok (.getfield 42, 3) := by decide +kernel
theorem dX1_calledAtOf_48 : decode cX1_calledAtOf 48 = .ok (.iaload, 1) := by decide +kernel
theorem dX1_calledAtOf_49 : decode cX1_calledAtOf 49 = .ok (.goto 4, 3) := by decide +kernel
theorem dX1_calledAtOf_52 : decode cX1_calledAtOf 52 = .ok (.iconst (-1), 1) := by decide +kernel
theorem dX1_calledAtOf_53 : decode cX1_calledAtOf 53 = .ok (.ireturn, 1) := by decide +kernel
theorem dX1_isCallerOf_0 : decode cX1_isCallerOf 0 = .ok (.aload_n 0, 1) := by decide +kernel
theorem dX1_isCallerOf_1 : decode cX1_isCallerOf 1 = .ok (.aload_n 1, 1) := by decide +kernel
theorem dX1_isCallerOf_2 : decode cX1_isCallerOf 2 = .ok (.invokevirtual 45, 3) := by decide +kernel
theorem dX1_isCallerOf_5 : decode cX1_isCallerOf 5 = .ok (.istore_n 3, 1) := by decide +kernel
theorem dX1_isCallerOf_6 : decode cX1_isCallerOf 6 = .ok (.iload_n 3, 1) := by decide +kernel
theorem dX1_isCallerOf_7 : decode cX1_isCallerOf 7 = .ok (.iconst (-1), 1) := by decide +kernel
theorem dX1_isCallerOf_8 : decode cX1_isCallerOf 8 = .ok (.if_icmp .eq 15, 3) := by decide +kernel
theorem dX1_isCallerOf_11 : decode cX1_isCallerOf 11 = .ok (.iload_n 2, 1) := by decide +kernel
theorem dX1_isCallerOf_12 : decode cX1_isCallerOf 12 = .ok (.iload_n 3, 1) := by decide +kernel
theorem dX1_isCallerOf_13 : decode cX1_isCallerOf 13 = .ok (.isub, 1) := by decide +kernel
theorem dX1_isCallerOf_14 : decode cX1_isCallerOf 14 = .ok (.bipush 24, 2) := by decide +kernel
theorem dX1_isCallerOf_16 : decode cX1_isCallerOf 16 = .ok (.if_icmp .ge 7, 3) := by decide +kernel
theorem dX1_isCallerOf_19 : decode cX1_isCallerOf 19 = .ok (.iconst 1, 1) := by decide +kernel
theorem dX1_isCallerOf_20 : decode cX1_isCallerOf 20 = .ok (.goto 4, 3) := by decide +kernel
theorem dX1_isCallerOf_23 : decode cX1_isCallerOf 23 = .ok (.iconst 0, 1) := by decide +kernel
theorem dX1_isCallerOf_24 : decode cX1_isCallerOf 24 = .ok (.ireturn, 1) := by decide +kernel
theorem dX1_servedThisHourBy_0 : decode cX1_servedThisHourBy 0 = .ok (.aload_n 1, 1) := by decide +kernel
theorem dX1_servedThisHourBy_1 : decode cX1_servedThisHourBy 1 = .ok (.getfield 22, 3) := by decide +kernel
theorem dX1_servedThisHourBy_4 : decode cX1_servedThisHourBy 4 = .ok (.aload_n 0, 1) := by decide +kernel
theorem dX1_servedThisHourBy_5 : decode cX1_servedThisHourBy 5 = .ok (.getfield 28, 3) := by decide +kernel
theorem dX1_servedThisHourBy_8 : decode cX1_servedThisHourBy 8 = .ok (.if_acmp .ne 26, 3) := by decide +kernel
theorem dX1_servedThisHourBy_11 : decode cX1_servedThisHourBy 11 = .ok (.aload_n 1, 1) := by decide +kernel
theorem dX1_servedThisHourBy_12 : decode cX1_servedThisHourBy 12 = .ok (.getfield 42, 3) := by decide +kernel
theorem dX1_servedThisHourBy_15 : decode cX1_servedThisHourBy 15 = .ok (.ifCond .lt 19, 3) := by decide +kernel
theorem dX1_servedThisHourBy_18 : decode cX1_servedThisHourBy 18 = .ok (.aload_n 1, 1) := by decide +kernel
theorem dX1_servedThisHourBy_19 : decode cX1_servedThisHourBy 19 = .ok (.getfield 42, 3) := by decide +kernel
theorem dX1_servedThisHourBy_22 : decode cX1_servedThisHourBy 22 = .ok (.aload_n 0, 1) := by decide +kernel
theorem dX1_servedThisHourBy_23 : decode cX1_servedThisHourBy 23 = .ok (.getfield 15, 3) := by decide +kernel
theorem dX1_servedThisHourBy_26 : decode cX1_servedThisHourBy 26 = .ok (.arraylength, 1) := by decide +kernel
theorem dX1_servedThisHourBy_27 : decode cX1_servedThisHourBy 27 = .ok (.if_icmp .ge 7, 3) := by decide +kernel
theorem dX1_servedThisHourBy_30 : decode cX1_servedThisHourBy 30 = .ok (.iconst 1, 1) := by decide +kernel
theorem dX1_servedThisHourBy_31 : decode cX1_servedThisHourBy 31 = .ok (.goto 4, 3) := by decide +kernel
theorem dX1_servedThisHourBy_34 : decode cX1_servedThisHourBy 34 = .ok (.iconst 0, 1) := by decide +kernel
theorem dX1_servedThisHourBy_35 : decode cX1_servedThisHourBy 35 = .ok (.istore_n 2, 1) := by decide +kernel
theorem dX1_servedThisHourBy_36 : decode cX1_servedThisHourBy 36 = .ok (.iload_n 2, 1) := by decide +kernel
theorem dX1_servedThisHourBy_37 : decode cX1_servedThisHourBy 37 = .ok (.ifCond .eq 15, 3) := by decide +kernel
theorem dX1_servedThisHourBy_40 : decode cX1_servedThisHourBy 40 = .ok (.aload_n 0, 1) := by decide +kernel
theorem dX1_servedThisHourBy_41 : decode cX1_servedThisHourBy 41 = .ok (.getfield 15, 3) := by decide +kernel
theorem dX1_servedThisHourBy_44 : decode cX1_servedThisHourBy 44 = .ok (.aload_n 1, 1) := by decide +kernel
theorem dX1_servedThisHourBy_45 : decode cX1_servedThisHourBy 45 = .ok (.getfield 42, 3) := by decide +kernel
theorem dX1_servedThisHourBy_48 : decode cX1_servedThisHourBy 48 = .ok (.iaload, 1) := by decide +kernel
theorem dX1_servedThisHourBy_49 : decode cX1_servedThisHourBy 49 = .ok (.goto 4, 3) := by decide +kernel
theorem dX1_servedThisHourBy_52 : decode cX1_servedThisHourBy 52 = .ok (.iconst 0, 1) := by decide +kernel
theorem dX1_servedThisHourBy_53 : decode cX1_servedThisHourBy 53 = .ok (.ireturn, 1) := by decide +kernel
theorem dX1_noteCall_0 : decode cX1_noteCall 0 = .ok (.aload_n 0, 1) := by decide +kernel
theorem dX1_noteCall_1 : decode cX1_noteCall 1 = .ok (.dup, 1) := by decide +kernel
theorem dX1_noteCall_2 : decode cX1_noteCall 2 = .ok (.getfield 49, 3) := by decide +kernel
theorem dX1_noteCall_5 : decode cX1_noteCall 5 = .ok (.iconst 1, 1) := by decide +kernel
theorem dX1_noteCall_6 : decode cX1_noteCall 6 = .ok (.iadd, 1) := by decide +kernel
theorem dX1_noteCall_7 : decode cX1_noteCall 7 = .ok (.putfield 49, 3) := by decide +kernel
theorem dX1_noteCall_10 : decode cX1_noteCall 10 = .ok (.iload_n 2, 1) := by decide +kernel
theorem dX1_noteCall_11 : decode cX1_noteCall 11 = .ok (.ifCond .ne 13, 3) := by decide +kernel
theorem dX1_noteCall_14 : decode cX1_noteCall 14 = .ok (.aload_n 0, 1) := by decide +kernel
theorem dX1_noteCall_15 : decode cX1_noteCall 15 = .ok (.dup, 1) := by decide +kernel
theorem dX1_noteCall_16 : decode cX1_noteCall 16 = .ok (.getfield 52, 3) := by decide +kernel
theorem dX1_noteCall_19 : decode cX1_noteCall 19 = .ok (.iconst 1, 1) := by decide +kernel
theorem dX1_noteCall_20 : decode cX1_noteCall 20 = .ok (.iadd, 1) := by decide +kernel
theorem dX1_noteCall_21 : decode cX1_noteCall 21 = .ok (.putfield 52, 3) := by decide +kernel
theorem dX1_noteCall_24 : decode cX1_noteCall 24 = .ok (.aload_n 0, 1) := by decide +kernel
theorem dX1_noteCall_25 : decode cX1_noteCall 25 = .ok (.getfield 29, 3) := by decide +kernel
theorem dX1_noteCall_28 : decode cX1_noteCall 28 = .ok (.getfield 42, 3) := by decide +kernel
theorem dX1_noteCall_31 : decode cX1_noteCall 31 = .ok (.istore_n 3, 1) := by decide +kernel
theorem dX1_noteCall_32 : decode cX1_noteCall 32 = .ok (.iload_n 3, 1) := by decide +kernel
theorem dX1_noteCall_33 : decode cX1_noteCall 33 = .ok (.ifCond .lt 46, 3) := by decide +kernel
theorem dX1_noteCall_36 : decode cX1_noteCall 36 = .ok (.iload_n 3, 1) := by decide +kernel
theorem dX1_noteCall_37 : decode cX1_noteCall 37 = .ok (.aload_n 0, 1) := by decide +kernel
theorem dX1_noteCall_38 : decode cX1_noteCall 38 = .ok (.getfield 9, 3) := by decide +kernel
theorem dX1_noteCall_41 : decode cX1_noteCall 41 = .ok (.arraylength, 1) := by decide +kernel
theorem dX1_noteCall_42 : decode cX1_noteCall 42 = .ok (.if_icmp .ge 37, 3) := by decide +kernel
theorem dX1_noteCall_45 : decode cX1_noteCall 45 = .ok (.iload_n 3, 1) := by decide +kernel
theorem dX1_noteCall_46 : decode cX1_noteCall 46 = .ok (.aload_n 0, 1) := by decide +kernel
theorem dX1_noteCall_47 : decode cX1_noteCall 47 = .ok (.getfield 15, 3) := by decide +kernel
theorem dX1_noteCall_50 : decode cX1_noteCall 50 = .ok (.arraylength, 1) := by decide +kernel
theorem dX1_noteCall_51 : decode cX1_noteCall 51 = .ok (.if_icmp .ge 28, 3) := by decide +kernel
theorem dX1_noteCall_54 : decode cX1_noteCall 54 = .ok (.aload_n 0, 1) := by decide +kernel
theorem dX1_noteCall_55 : decode cX1_noteCall 55 = .ok (.getfield 9, 3) := by decide +kernel
theorem dX1_noteCall_58 : decode cX1_noteCall 58 = .ok (.iload_n 3, 1) := by decide +kernel
theorem dX1_noteCall_59 : decode cX1_noteCall 59 = .ok (.iload_n 1, 1) := by decide +kernel
theorem dX1_noteCall_60 : decode cX1_noteCall 60 = .ok (.iastore, 1) := by decide +kernel
theorem dX1_noteCall_61 : decode cX1_noteCall 61 = .ok (.aload_n 0, 1) := by decide +kernel
theorem dX1_noteCall_62 : decode cX1_noteCall 62 = .ok (.getfield 15, 3) := by decide +kernel
theorem dX1_noteCall_65 : decode cX1_noteCall 65 = .ok (.iload_n 3, 1) := by decide +kernel
theorem dX1_noteCall_66 : decode cX1_noteCall 66 = .ok (.dup2, 1) := by decide +kernel
theorem dX1_noteCall_67 : decode cX1_noteCall 67 = .ok (.iaload, 1) := by decide +kernel
theorem dX1_noteCall_68 : decode cX1_noteCall 68 = .ok (.iload_n 2, 1) := by decide +kernel
theorem dX1_noteCall_69 : decode cX1_noteCall 69 = .ok (.ifCond .eq 7, 3) := by decide +kernel
theorem dX1_noteCall_72 : decode cX1_noteCall 72 = .ok (.iconst 1, 1) := by decide +kernel
theorem dX1_noteCall_73 : decode cX1_noteCall 73 = .ok (.goto 4, 3) := by decide +kernel
theorem dX1_noteCall_76 : decode cX1_noteCall 76 = .ok (.iconst 0, 1) := by decide +kernel
theorem dX1_noteCall_77 : decode cX1_noteCall 77 = .ok (.iadd, 1) := by decide +kernel
theorem dX1_noteCall_78 : decode cX1_noteCall 78 = .ok (.iastore, 1) := by decide +kernel
theorem dX1_noteCall_79 : decode cX1_noteCall 79 = .ok (.return_, 1) := by decide +kernel
theorem dX2_init_0 : decode cX2_init 0 = .ok (.aload_n 0, 1) := by decide +kernel
theorem dX2_init_1 : decode cX2_init 1 = .ok (.invokespecial 3, 3) := by decide +kernel
theorem dX2_init_4 : decode cX2_init 4 = .ok (.aload_n 0, 1) := by decide +kernel
theorem dX2_init_5 : decode cX2_init 5 = .ok (.bipush 6, 2) := by decide +kernel
theorem dX2_init_7 : decode cX2_init 7 = .ok (.anewarray 9, 3) := by decide +kernel
theorem dX2_init_10 : decode cX2_init 10 = .ok (.putfield 11, 3) := by decide +kernel
theorem dX2_init_13 : decode cX2_init 13 = .ok (.aload_n 0, 1) := by decide +kernel
theorem dX2_init_14 : decode cX2_init 14 = .ok (.iload_n 1, 1) := by decide +kernel
theorem dX2_init_15 : decode cX2_init 15 = .ok (.putfield 17, 3) := by decide +kernel
theorem dX2_init_18 : decode cX2_init 18 = .ok (.return_, 1) := by decide +kernel
theorem dX2_versionAt_0 : decode cX2_versionAt 0 = .ok (.iload_n 1, 1) := by decide +kernel
theorem dX2_versionAt_1 : decode cX2_versionAt 1 = .ok (.ifCond .lt 21, 3) := by decide +kernel
theorem dX2_versionAt_4 : decode cX2_versionAt 4 = .ok (.iload_n 1, 1) := by decide +kernel
theorem dX2_versionAt_5 : decode cX2_versionAt 5 = .ok (.aload_n 0, 1) := by decide +kernel
theorem dX2_versionAt_6 : decode cX2_versionAt 6 = .ok (.getfield 11, 3) := by decide +kernel
theorem dX2_versionAt_9 : decode cX2_versionAt 9 = .ok (.arraylength, 1) := by decide +kernel
theorem dX2_versionAt_10 : decode cX2_versionAt 10 = .ok (.if_icmp .ge 12, 3) := by decide +kernel
theorem dX2_versionAt_13 : decode cX2_versionAt 13 = .ok (.aload_n 0, 1) := by decide +kernel
theorem dX2_versionAt_14 : decode cX2_versionAt 14 = .ok (.getfield 11, 3) := by decide +kernel
theorem dX2_versionAt_17 : decode cX2_versionAt 17 = .ok (.iload_n 1, 1) := by decide +kernel
theorem dX2_versionAt_18 : decode cX2_versionAt 18 = .ok (.aaload, 1) := by decide +kernel
theorem dX2_versionAt_19 : decode cX2_versionAt 19 = .ok (.goto 4, 3) := by decide +kernel
theorem dX2_versionAt_22 : decode cX2_versionAt 22 = .ok (.aconst_null, 1) := by decide +kernel
theorem dX2_versionAt_23 : decode cX2_versionAt 23 = .ok (.areturn, 1) := by decide +kernel
theorem dX3_init_0 : decode cX3_init 0 = .ok (.aload_n 0, 1) := by decide +kernel
theorem dX3_init_1 : decode cX3_init 1 = .ok (.invokespecial 3, 3) := by decide +kernel
theorem dX3_init_4 : decode cX3_init 4 = .ok (.aload_n 0, 1) := by decide +kernel
theorem dX3_init_5 : decode cX3_init 5 = .ok (.iconst 5, 1) := by decide +kernel
theorem dX3_init_6 : decode cX3_init 6 = .ok (.newarray .int, 2) := by decide +kernel
theorem dX3_init_8 : decode cX3_init 8 = .ok (.putfield 9, 3) := by decide +kernel
theorem dX3_init_11 : decode cX3_init 11 = .ok (.aload_n 0, 1) := by decide +kernel
theorem dX3_init_12 : decode cX3_init 12 = .ok (.iconst (-1), 1) := by decide +kernel
theorem dX3_init_13 : decode cX3_init 13 = .ok (.putfield 15, 3) := by decide +kernel
theorem dX3_init_16 : decode cX3_init 16 = .ok (.aload_n 0, 1) := by decide +kernel
theorem dX3_init_17 : decode cX3_init 17 = .ok (.iconst (-1), 1) := by decide +kernel
theorem dX3_init_18 : decode cX3_init 18 = .ok (.putfield 19, 3) := by decide +kernel
theorem dX3_init_21 : decode cX3_init 21 = .ok (.aload_n 0, 1) := by decide +kernel
theorem dX3_init_22 : decode cX3_init 22 = .ok (.getfield 9, 3) := by decide +kernel
theorem dX3_init_25 : decode cX3_init 25 = .ok (.iconst (-1), 1) := by decide +kernel
theorem dX3_init_26 : decode cX3_init 26 = .ok (.invokestatic 22, 3) := by decide +kernel
theorem dX3_init_29 : decode cX3_init 29 = .ok (.return_, 1) := by decide +kernel
theorem dX3_start_0 : decode cX3_start 0 = .ok (.aload_n 0, 1) := by decide +kernel
theorem dX3_start_1 : decode cX3_start 1 = .ok (.invokevirtual 28, 3) := by decide +kernel
theorem dX3_start_4 : decode cX3_start 4 = .ok (.aload_n 0, 1) := by decide +kernel
theorem dX3_start_5 : decode cX3_start 5 = .ok (.iload_n 1, 1) := by decide +kernel
theorem dX3_start_6 : decode cX3_start 6 = .ok (.putfield 15, 3) := by decide +kernel
theorem dX3_start_9 : decode cX3_start 9 = .ok (.aload_n 0, 1) := by decide +kernel
theorem dX3_start_10 : decode cX3_start 10 = .ok (.iload_n 1, 1) := by decide +kernel
theorem dX3_start_11 : decode cX3_start 11 = .ok (.iload_n 2, 1) := by decide +kernel
theorem dX3_start_12 : decode cX3_start 12 = .ok (.bipush 24, 2) := by decide +kernel
theorem dX3_start_14 : decode cX3_start 14 = .ok (.imul, 1) := by decide +kernel
theorem dX3_start_15 : decode cX3_start 15 = .ok (.iadd, 1) := by decide +kernel
theorem dX3_start_16 : decode cX3_start 16 = .ok (.putfield 19, 3) := by decide +kernel
theorem dX3_start_19 : decode cX3_start 19 = .ok (.return_, 1) := by decide +kernel
theorem dX3_clear_0 : decode cX3_clear 0 = .ok (.aload_n 0, 1) := by decide +kernel
theorem dX3_clear_1 : decode cX3_clear 1 = .ok (.iconst (-1), 1) := by decide +kernel
theorem dX3_clear_2 : decode cX3_clear 2 = .ok (.putfield 15, 3) := by decide +kernel
theorem dX3_clear_5 : decode cX3_clear 5 = .ok (.aload_n 0, 1) := by decide +kernel
theorem dX3_clear_6 : decode cX3_clear 6 = .ok (.iconst (-1), 1) := by decide +kernel
theorem dX3_clear_7 : decode cX3_clear 7 = .ok (.putfield 19, 3) := by decide +kernel
theorem dX3_clear_10 : decode cX3_clear 10 = .ok (.aload_n 0, 1) := by decide +kernel
theorem dX3_clear_11 : decode cX3_clear 11 = .ok (.iconst 0, 1) := by decide +kernel
theorem dX3_clear_12 : decode cX3_clear 12 = .ok (.putfield 31, 3) := by decide +kernel
theorem dX3_clear_15 : decode cX3_clear 15 = .ok (.aload_n 0, 1) := by decide +kernel
theorem dX3_clear_16 : decode cX3_clear 16 = .ok (.getfield 9, 3) := by decide +kernel
theorem dX3_clear_19 : decode cX3_clear 19 = .ok (.iconst (-1), 1) := by decide +kernel
theorem dX3_clear_20 : decode cX3_clear 20 = .ok (.invokestatic 22, 3) := by decide +kernel
theorem dX3_clear_23 : decode cX3_clear 23 = .ok (.return_, 1) := by decide +kernel
theorem dX3_askedAtOf_0 : decode cX3_askedAtOf 0 = .ok (.iload_n 1, 1) := by decide +kernel
theorem dX3_askedAtOf_1 : decode cX3_askedAtOf 1 = .ok (.ifCond .lt 21, 3) := by decide +kernel
theorem dX3_askedAtOf_4 : decode cX3_askedAtOf 4 = .ok (.iload_n 1, 1) := by decide +kernel
theorem dX3_askedAtOf_5 : decode cX3_askedAtOf 5 = .ok (.aload_n 0, 1) := by decide +kernel
theorem dX3_askedAtOf_6 : decode cX3_askedAtOf 6 = .ok (.getfield 9, 3) := by decide +kernel
theorem dX3_askedAtOf_9 : decode cX3_askedAtOf 9 = .ok (.arraylength, 1) := by decide +kernel
theorem dX3_askedAtOf_10 : decode cX3_askedAtOf 10 = .ok (.if_icmp .ge 12, 3) := by decide +kernel
theorem dX3_askedAtOf_13 : decode cX3_askedAtOf 13 = .ok (.aload_n 0, 1) := by decide +kernel
theorem dX3_askedAtOf_14 : decode cX3_askedAtOf 14 = .ok (.getfield 9, 3) := by decide +kernel
theorem dX3_askedAtOf_17 : decode cX3_askedAtOf 17 = .ok (.iload_n 1, 1) := by decide +kernel
theorem dX3_askedAtOf_18 : decode cX3_askedAtOf 18 = .ok (.iaload, 1) := by decide +kernel
theorem dX3_askedAtOf_19 : decode cX3_askedAtOf 19 = .ok (.goto 4, 3) := by decide +kernel
theorem dX3_askedAtOf_22 : decode cX3_askedAtOf 22 = .ok (.iconst (-1), 1) := by decide +kernel
theorem dX3_askedAtOf_23 : decode cX3_askedAtOf 23 = .ok (.ireturn, 1) := by decide +kernel
theorem dX3_ask_0 : decode cX3_ask 0 = .ok (.iload_n 1, 1) := by decide +kernel
theorem dX3_ask_1 : decode cX3_ask 1 = .ok (.ifCond .lt 22, 3) := by decide +kernel
theorem dX3_ask_4 : decode cX3_ask 4 = .ok (.iload_n 1, 1) := by decide +kernel
theorem dX3_ask_5 : decode cX3_ask 5 = .ok (.aload_n 0, 1) := by decide +kernel
theorem dX3_ask_6 : decode cX3_ask 6 = .ok (.getfield 9, 3) := by decide +kernel
theorem dX3_ask_9 : decode cX3_ask 9 = .ok (.arraylength, 1) := by decide +kernel
theorem dX3_ask_10 : decode cX3_ask 10 = .ok (.if_icmp .ge 13, 3) := by decide +kernel
theorem dX3_ask_13 : decode cX3_ask 13 = .ok (.aload_n 0, 1) := by decide +kernel
theorem dX3_ask_14 : decode cX3_ask 14 = .ok (.getfield 9, 3) := by decide +kernel
theorem dX3_ask_17 : decode cX3_ask 17 = .ok (.iload_n 1, 1) := by decide +kernel
theorem dX3_ask_18 : decode cX3_ask 18 = .ok (.iaload, 1) := by decide +kernel
theorem dX3_ask_19 : decode cX3_ask 19 = .ok (.iconst (-1), 1) := by decide +kernel
theorem dX3_ask_20 : decode cX3_ask 20 = .ok (.if_icmp .eq 5, 3) := by decide +kernel
theorem dX3_ask_23 : decode cX3_ask 23 = .ok (.iconst 0, 1) := by decide +kernel
theorem dX3_ask_24 : decode cX3_ask 24 = .ok (.ireturn, 1) := by decide +kernel
theorem dX3_ask_25 : decode cX3_ask 25 = .ok (.aload_n 0, 1) := by decide +kernel
theorem dX3_ask_26 : decode cX3_ask 26 = .ok (.getfield 9, 3) := by decide +kernel
theorem dX3_ask_29 : decode cX3_ask 29 = .ok (.iload_n 1, 1) := by decide +kernel
theorem dX3_ask_30 : decode cX3_ask 30 = .ok (.iload_n 2, 1) := by decide +kernel
theorem dX3_ask_31 : decode cX3_ask 31 = .ok (.iastore, 1) := by decide +kernel
theorem dX3_ask_32 : decode cX3_ask 32 = .ok (.iconst 1, 1) := by decide +kernel
theorem dX3_ask_33 : decode cX3_ask 33 = .ok (.ireturn, 1) := by decide +kernel
theorem dX3_hasAnswered_0 : decode cX3_hasAnswered 0 = .ok (.aload_n 0, 1) := by decide +kernel
theorem dX3_hasAnswered_1 : decode cX3_hasAnswered 1 = .ok (.getfield 31, 3) := by decide +kernel
theorem dX3_hasAnswered_4 : decode cX3_hasAnswered 4 = .ok (.iload_n 1, 1) := by decide +kernel
theorem dX3_hasAnswered_5 : decode cX3_hasAnswered 5 = .ok (.ishr, 1) := by decide +kernel
theorem dX3_hasAnswered_6 : decode cX3_hasAnswered 6 = .ok (.iconst 1, 1) := by decide +kernel
theorem dX3_hasAnswered_7 : decode cX3_hasAnswered 7 = .ok (.iand, 1) := by decide +kernel
theorem dX3_hasAnswered_8 : decode cX3_hasAnswered 8 = .ok (.iconst 1, 1) := by decide +kernel
theorem dX3_hasAnswered_9 : decode cX3_hasAnswered 9 = .ok (.if_icmp .ne 7, 3) := by decide +kernel
theorem dX3_hasAnswered_12 : decode cX3_hasAnswered 12 = .ok (.iconst 1, 1) := by decide +kernel
theorem dX3_hasAnswered_13 : decode cX3_hasAnswered 13 = .ok (.goto 4, 3) := by decide +kernel
theorem dX3_hasAnswered_16 : decode cX3_hasAnswered 16 = .ok (.iconst 0, 1) := by decide +kernel
theorem dX3_hasAnswered_17 : decode cX3_hasAnswered 17 = .ok (.ireturn, 1) := by decide +kernel
theorem dX3_isWarned_0 : decode cX3_isWarned 0 = .ok (.aload_n 0, 1) := by decide +kernel
theorem dX3_isWarned_1 : decode cX3_isWarned 1 = .ok (.iload_n 1, 1) := by decide +kernel
theorem dX3_isWarned_2 : decode cX3_isWarned 2 = .ok (.invokevirtual 34, 3) := by decide +kernel
theorem dX3_isWarned_5 : decode cX3_isWarned 5 = .ok (.istore_n 3, 1) := by decide +kernel
theorem dX3_isWarned_6 : decode cX3_isWarned 6 = .ok (.aload_n 0, 1) := by decide +kernel
theorem dX3_isWarned_7 : decode cX3_isWarned 7 = .ok (.iload_n 1, 1) := by decide +kernel
theorem dX3_isWarned_8 : decode cX3_isWarned 8 = .ok (.invokevirtual 38, 3) := by decide +kernel
theorem dX3_isWarned_11 : decode cX3_isWarned 11 = .ok (.ifCond .ne 16, 3) := by decide +kernel
theorem dX3_isWarned_14 : decode cX3_isWarned 14 = .ok (.iload_n 3, 1) := by decide +kernel
theorem dX3_isWarned_15 : decode cX3_isWarned 15 = .ok (.iconst (-1), 1) := by decide +kernel
theorem dX3_isWarned_16 : decode cX3_isWarned 16 = .ok (.if_icmp .eq 15, 3) := by decide +kernel
theorem dX3_isWarned_19 : decode cX3_isWarned 19 = .ok (.iload_n 2, 1) := by decide +kernel
theorem dX3_isWarned_20 : decode cX3_isWarned 20 = .ok (.iload_n 3, 1) := by decide +kernel
theorem dX3_isWarned_21 : decode cX3_isWarned 21 = .ok (.isub, 1) := by decide +kernel
theorem dX3_isWarned_22 : decode cX3_isWarned 22 = .ok (.bipush 72, 2) := by decide +kernel
theorem dX3_isWarned_24 : decode cX3_isWarned 24 = .ok (.if_icmp .lt 7, 3) := by decide +kernel
theorem dX3_isWarned_27 : decode cX3_isWarned 27 = .ok (.iconst 1, 1) := by decide +kernel
theorem dX3_isWarned_28 : decode cX3_isWarned 28 = .ok (.goto 4, 3) := by decide +kernel
theorem dX3_isWarned_31 : decode cX3_isWarned 31 = .ok (.iconst 0, 1) := by decide +kernel
theorem dX3_isWarned_32 : decode cX3_isWarned 32 = .ok (.ireturn, 1) := by decide +kernel
theorem dX3_isBrownedOut_0 : decode cX3_isBrownedOut 0 = .ok (.iload_n 1, 1) := by decide +kernel
theorem dX3_isBrownedOut_1 : decode cX3_isBrownedOut 1 = .ok (.aload_n 0, 1) := by decide +kernel
theorem dX3_isBrownedOut_2 : decode cX3_isBrownedOut 2 = .ok (.getfield 15, 3) := by decide +kernel
theorem dX3_isBrownedOut_5 : decode cX3_isBrownedOut 5 = .ok (.isub, 1) := by decide +kernel
theorem dX3_isBrownedOut_6 : decode cX3_isBrownedOut 6 = .ok (.bipush 24, 2) := by decide +kernel
theorem dX3_isBrownedOut_8 : decode cX3_isBrownedOut 8 = .ok (.irem, 1) := by decide +kernel
theorem dX3_isBrownedOut_9 : decode cX3_isBrownedOut 9 = .ok (.istore_n 2, 1) := by decide +kernel
theorem dX3_isBrownedOut_10 : decode cX3_isBrownedOut 10 = .ok (.iload_n 2, 1) := by decide +kernel
theorem dX3_isBrownedOut_11 : decode cX3_isBrownedOut 11 = .ok (.iconst 2, 1) := by decide +kernel
theorem dX3_isBrownedOut_12 : decode cX3_isBrownedOut 12 = .ok (.iload_n 1, 1) := by decide +kernel
theorem dX3_isBrownedOut_13 : decode cX3_isBrownedOut 13 = .ok (.aload_n 0, 1) := by decide +kernel
theorem dX3_isBrownedOut_14 : decode cX3_isBrownedOut 14 = .ok (.getfield 15, 3) := by decide +kernel
theorem dX3_isBrownedOut_17 : decode cX3_isBrownedOut 17 = .ok (.isub, 1) := by decide +kernel
theorem dX3_isBrownedOut_18 : decode cX3_isBrownedOut 18 = .ok (.bipush 24, 2) := by decide +kernel
theorem dX3_isBrownedOut_20 : decode cX3_isBrownedOut 20 = .ok (.idiv, 1) := by decide +kernel
theorem dX3_isBrownedOut_21 : decode cX3_isBrownedOut 21 = .ok (.imul, 1) := by decide +kernel
theorem dX3_isBrownedOut_22 : decode cX3_isBrownedOut 22 = .ok (.if_icmp .ge 13, 3) := by decide +kernel
theorem dX3_isBrownedOut_25 : decode cX3_isBrownedOut 25 = .ok (.iload_n 2, 1) := by decide +kernel
theorem dX3_isBrownedOut_26 : decode cX3_isBrownedOut 26 = .ok (.bipush 12, 2) := by decide +kernel
theorem dX3_isBrownedOut_28 : decode cX3_isBrownedOut 28 = .ok (.if_icmp .ge 7, 3) := by decide +kernel
theorem dX3_isBrownedOut_31 : decode cX3_isBrownedOut 31 = .ok (.iconst 1, 1) := by decide +kernel
theorem dX3_isBrownedOut_32 : decode cX3_isBrownedOut 32 = .ok (.goto 4, 3) := by decide +kernel
theorem dX3_isBrownedOut_35 : decode cX3_isBrownedOut 35 = .ok (.iconst 0, 1) := by decide +kernel
theorem dX3_isBrownedOut_36 : decode cX3_isBrownedOut 36 = .ok (.ireturn, 1) := by decide +kernel
theorem dX3_quota_0 : decode cX3_quota 0 = .ok (.iconst 1, 1) := by decide +kernel
theorem dX3_quota_1 : decode cX3_quota 1 = .ok (.bipush 8, 2) := by decide +kernel
theorem dX3_quota_3 : decode cX3_quota 3 = .ok (.iload_n 1, 1) := by decide +kernel
theorem dX3_quota_4 : decode cX3_quota 4 = .ok (.aload_n 0, 1) := by decide +kernel
theorem dX3_quota_5 : decode cX3_quota 5 = .ok (.getfield 15, 3) := by decide +kernel
theorem dX3_quota_8 : decode cX3_quota 8 = .ok (.isub, 1) := by decide +kernel
theorem dX3_quota_9 : decode cX3_quota 9 = .ok (.bipush 24, 2) := by decide +kernel
theorem dX3_quota_11 : decode cX3_quota 11 = .ok (.idiv, 1) := by decide +kernel
theorem dX3_quota_12 : decode cX3_quota 12 = .ok (.isub, 1) := by decide +kernel
theorem dX3_quota_13 : decode cX3_quota 13 = .ok (.invokestatic 42, 3) := by decide +kernel
theorem dX3_quota_16 : decode cX3_quota 16 = .ok (.ireturn, 1) := by decide +kernel
theorem dX4_init_0 : decode cX4_init 0 = .ok (.aload_n 0, 1) := by decide +kernel
theorem dX4_init_1 : decode cX4_init 1 = .ok (.invokespecial 3, 3) := by decide +kernel
theorem dX4_init_4 : decode cX4_init 4 = .ok (.aload_n 0, 1) := by decide +kernel
theorem dX4_init_5 : decode cX4_init 5 = .ok (.iconst 3, 1) := by decide +kernel
theorem dX4_init_6 : decode cX4_init 6 = .ok (.newarray .int, 2) := by decide +kernel
theorem dX4_init_8 : decode cX4_init 8 = .ok (.putfield 9, 3) := by decide +kernel
theorem dX4_init_11 : decode cX4_init 11 = .ok (.return_, 1) := by decide +kernel
theorem dX5_init_0 : decode cX5_init 0 = .ok (.aload_n 0, 1) := by decide +kernel
theorem dX5_init_1 : decode cX5_init 1 = .ok (.invokespecial 3, 3) := by decide +kernel
theorem dX5_init_4 : decode cX5_init 4 = .ok (.aload_n 0, 1) := by decide +kernel
theorem dX5_init_5 : decode cX5_init 5 = .ok (.new 9, 3) := by decide +kernel
theorem dX5_init_8 : decode cX5_init 8 = .ok (.dup, 1) := by decide +kernel
theorem dX5_init_9 : decode cX5_init 9 = .ok (.invokespecial 11, 3) := by decide +kernel
theorem dX5_init_12 : decode cX5_init 12 = .ok (.putfield 12, 3) := by decide +kernel
theorem dX5_init_15 : decode cX5_init 15 = .ok (.aload_n 0, 1) := by decide +kernel
theorem dX5_init_16 : decode cX5_init 16 = .ok (.iconst 0, 1) := by decide +kernel
theorem dX5_init_17 : decode cX5_init 17 = .ok (.putfield 18, 3) := by decide +kernel
theorem dX5_init_20 : decode cX5_init 20 = .ok (.aload_n 0, 1) := by decide +kernel
theorem dX5_init_21 : decode cX5_init 21 = .ok (.aload_n 1, 1) := by decide +kernel
theorem dX5_init_22 : decode cX5_init 22 = .ok (.putfield 22, 3) := by decide +kernel
theorem dX5_init_25 : decode cX5_init 25 = .ok (.aload_n 0, 1) := by decide +kernel
theorem dX5_init_26 : decode cX5_init 26 = .ok (.iload_n 2, 1) := by decide +kernel
theorem dX5_init_27 : decode cX5_init 27 = .ok (.putfield 26, 3) := by decide +kernel
theorem dX5_init_30 : decode cX5_init 30 = .ok (.aload_n 0, 1) := by decide +kernel
theorem dX5_init_31 : decode cX5_init 31 = .ok (.iload_n 3, 1) := by decide +kernel
theorem dX5_init_32 : decode cX5_init 32 = .ok (.putfield 29, 3) := by decide +kernel
theorem dX5_init_35 : decode cX5_init 35 = .ok (.aload_n 0, 1) := by decide +kernel
theorem dX5_init_36 : decode cX5_init 36 = .ok (.iload 4, 2) := by decide +kernel
theorem dX5_init_38 : decode cX5_init 38 = .ok (.putfield 32, 3) := by decide +kernel
theorem dX5_init_41 : decode cX5_init 41 = .ok (.return_, 1) := by decide +kernel
theorem dX5_suits_0 : decode cX5_suits 0 = .ok (.aload_n 1, 1) := by decide +kernel
theorem dX5_suits_1 : decode cX5_suits 1 = .ok (.getfield 29, 3) := by decide +kernel
theorem dX5_suits_4 : decode cX5_suits 4 = .ok (.aload_n 0, 1) := by decide +kernel
theorem dX5_suits_5 : decode cX5_suits 5 = .ok (.getfield 29, 3) := by decide +kernel
theorem dX5_suits_8 : decode cX5_suits 8 = .ok (.iconst (-1), 1) := by decide +kernel
theorem dX5_suits_9 : decode cX5_suits 9 = .ok (.ixor, 1) := by decide +kernel
theorem dX5_suits_10 : decode cX5_suits 10 = .ok (.iand, 1) := by decide +kernel
theorem dX5_suits_11 : decode cX5_suits 11 = .ok (.ifCond .ne 21, 3) := by decide +kernel
theorem dX5_suits_14 : decode cX5_suits 14 = .ok (.aload_n 0, 1) := by decide +kernel
theorem dX5_suits_15 : decode cX5_suits 15 = .ok (.getfield 32, 3) := by decide +kernel
theorem dX5_suits_18 : decode cX5_suits 18 = .ok (.aload_n 1, 1) := by decide +kernel
theorem dX5_suits_19 : decode cX5_suits 19 = .ok (.getfield 32, 3) := by decide +kernel
theorem dX5_suits_22 : decode cX5_suits 22 = .ok (.iconst (-1), 1) := by decide +kernel
theorem dX5_suits_23 : decode cX5_suits 23 = .ok (.ixor, 1) := by decide +kernel
theorem dX5_suits_24 : decode cX5_suits 24 = .ok (.iand, 1) := by decide +kernel
theorem dX5_suits_25 : decode cX5_suits 25 = .ok (.ifCond .ne 7, 3) := by decide +kernel
theorem dX5_suits_28 : decode cX5_suits 28 = .ok (.iconst 1, 1) := by decide +kernel
theorem dX5_suits_29 : decode cX5_suits 29 = .ok (.goto 4, 3) := by decide +kernel
theorem dX5_suits_32 : decode cX5_suits 32 = .ok (.iconst 0, 1) := by decide +kernel
theorem dX5_suits_33 : decode cX5_suits 33 = .ok (.ireturn, 1) := by decide +kernel
theorem dX5_usesAgain_0 : decode cX5_usesAgain 0 = .ok (.aload_n 0, 1) := by decide +kernel
theorem dX5_usesAgain_1 : decode cX5_usesAgain 1 = .ok (.getfield 32, 3) := by decide +kernel
theorem dX5_usesAgain_4 : decode cX5_usesAgain 4 = .ok (.iload_n 1, 1) := by decide +kernel
theorem dX5_usesAgain_5 : decode cX5_usesAgain 5 = .ok (.aload_n 0, 1) := by decide +kernel
theorem dX5_usesAgain_6 : decode cX5_usesAgain 6 = .ok (.getfield 29, 3) := by decide +kernel
theorem dX5_usesAgain_9 : decode cX5_usesAgain 9 = .ok (.iand, 1) := by decide +kernel
theorem dX5_usesAgain_10 : decode cX5_usesAgain 10 = .ok (.ior, 1) := by decide +kernel
theorem dX5_usesAgain_11 : decode cX5_usesAgain 11 = .ok (.ireturn, 1) := by decide +kernel
theorem dX6_init_0 : decode cX6_init 0 = .ok (.aload_n 0, 1) := by decide +kernel
theorem dX6_init_1 : decode cX6_init 1 = .ok (.invokespecial 1, 3) := by decide +kernel
theorem dX6_init_4 : decode cX6_init 4 = .ok (.aload_n 0, 1) := by decide +kernel
theorem dX6_init_5 : decode cX6_init 5 = .ok (.iconst 4, 1) := by decide +kernel
theorem dX6_init_6 : decode cX6_init 6 = .ok (.anewarray 9, 3) := by decide +kernel
theorem dX6_init_9 : decode cX6_init 9 = .ok (.putfield 11, 3) := by decide +kernel
theorem dX6_init_12 : decode cX6_init 12 = .ok (.aload_n 0, 1) := by decide +kernel
theorem dX6_init_13 : decode cX6_init 13 = .ok (.bipush 10, 2) := by decide +kernel
theorem dX6_init_15 : decode cX6_init 15 = .ok (.anewarray 15, 3) := by decide +kernel
theorem dX6_init_18 : decode cX6_init 18 = .ok (.putfield 17, 3) := by decide +kernel
theorem dX6_init_21 : decode cX6_init 21 = .ok (.aload_n 0, 1) := by decide +kernel
theorem dX6_init_22 : decode cX6_init 22 = .ok (.bipush 10, 2) := by decide +kernel
theorem dX6_init_24 : decode cX6_init 24 = .ok (.anewarray 21, 3) := by decide +kernel
theorem dX6_init_27 : decode cX6_init 27 = .ok (.putfield 23, 3) := by decide +kernel
theorem dX6_init_30 : decode cX6_init 30 = .ok (.aload_n 0, 1) := by decide +kernel
theorem dX6_init_31 : decode cX6_init 31 = .ok (.new 27, 3) := by decide +kernel
theorem dX6_init_34 : decode cX6_init 34 = .ok (.dup, 1) := by decide +kernel
theorem dX6_init_35 : decode cX6_init 35 = .ok (.invokespecial 29, 3) := by decide +kernel
theorem dX6_init_38 : decode cX6_init 38 = .ok (.putfield 30, 3) := by decide +kernel
theorem dX6_init_41 : decode cX6_init 41 = .ok (.aload_n 0, 1) := by decide +kernel
theorem dX6_init_42 : decode cX6_init 42 = .ok (.new 34, 3) := by decide +kernel
theorem dX6_init_45 : decode cX6_init 45 = .ok (.dup, 1) := by decide +kernel
theorem dX6_init_46 : decode cX6_init 46 = .ok (.invokespecial 36, 3) := by decide +kernel
theorem dX6_init_49 : decode cX6_init 49 = .ok (.putfield 37, 3) := by decide +kernel
theorem dX6_init_52 : decode cX6_init 52 = .ok (.return_, 1) := by decide +kernel
