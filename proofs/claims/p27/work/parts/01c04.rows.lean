theorem dX6_outcomeIn_0 : decode cX6_outcomeIn 0 = .ok (.aload_n 1, 1) := by decide +kernel
theorem dX6_outcomeIn_1 : decode cX6_outcomeIn 1 = .ok (.getfield 159, 3) := by decide +kernel
theorem dX6_outcomeIn_4 : decode cX6_outcomeIn 4 = .ok (.astore_n 3, 1) := by decide +kernel
theorem dX6_outcomeIn_5 : decode cX6_outcomeIn 5 = .ok (.aload_n 3, 1) := by decide +kernel
theorem dX6_outcomeIn_6 : decode cX6_outcomeIn 6 = .ok (.getfield 129, 3) := by decide +kernel
theorem dX6_outcomeIn_9 : decode cX6_outcomeIn 9 = .ok (.istore 4, 2) := by decide +kernel
theorem dX6_outcomeIn_11 : decode cX6_outcomeIn 11 = .ok (.iload 4, 2) := by decide +kernel
theorem dX6_outcomeIn_13 : decode cX6_outcomeIn 13 = .ok (.iconst 1, 1) := by decide +kernel
theorem dX6_outcomeIn_14 : decode cX6_outcomeIn 14 = .ok (.if_icmp .ne 30, 3) := by decide +kernel
theorem dX6_outcomeIn_17 : decode cX6_outcomeIn 17 = .ok (.aload_n 0, 1) := by decide +kernel
theorem dX6_outcomeIn_18 : decode cX6_outcomeIn 18 = .ok (.aload_n 3, 1) := by decide +kernel
theorem dX6_outcomeIn_19 : decode cX6_outcomeIn 19 = .ok (.aload_n 3, 1) := by decide +kernel
theorem dX6_outcomeIn_20 : decode cX6_outcomeIn 20 = .ok (.getfield 211, 3) := by decide +kernel
theorem dX6_outcomeIn_23 : decode cX6_outcomeIn 23 = .ok (.iconst 0, 1) := by decide +kernel
theorem dX6_outcomeIn_24 : decode cX6_outcomeIn 24 = .ok (.invokevirtual 267, 3) := by decide +kernel
theorem dX6_outcomeIn_27 : decode cX6_outcomeIn 27 = .ok (.istore 5, 2) := by decide +kernel
theorem dX6_outcomeIn_29 : decode cX6_outcomeIn 29 = .ok (.iload 5, 2) := by decide +kernel
theorem dX6_outcomeIn_31 : decode cX6_outcomeIn 31 = .ok (.iconst (-1), 1) := by decide +kernel
theorem dX6_outcomeIn_32 : decode cX6_outcomeIn 32 = .ok (.if_icmp .eq 12, 3) := by decide +kernel
theorem dX6_outcomeIn_35 : decode cX6_outcomeIn 35 = .ok (.iload 5, 2) := by decide +kernel
theorem dX6_outcomeIn_37 : decode cX6_outcomeIn 37 = .ok (.iload_n 2, 1) := by decide +kernel
theorem dX6_outcomeIn_38 : decode cX6_outcomeIn 38 = .ok (.if_icmp .gt 6, 3) := by decide +kernel
theorem dX6_outcomeIn_41 : decode cX6_outcomeIn 41 = .ok (.iconst 2, 1) := by decide +kernel
theorem dX6_outcomeIn_42 : decode cX6_outcomeIn 42 = .ok (.istore 4, 2) := by decide +kernel
theorem dX6_outcomeIn_44 : decode cX6_outcomeIn 44 = .ok (.aload_n 0, 1) := by decide +kernel
theorem dX6_outcomeIn_45 : decode cX6_outcomeIn 45 = .ok (.aload_n 1, 1) := by decide +kernel
theorem dX6_outcomeIn_46 : decode cX6_outcomeIn 46 = .ok (.iload 4, 2) := by decide +kernel
theorem dX6_outcomeIn_48 : decode cX6_outcomeIn 48 = .ok (.aload_n 0, 1) := by decide +kernel
theorem dX6_outcomeIn_49 : decode cX6_outcomeIn 49 = .ok (.getfield 225, 3) := by decide +kernel
theorem dX6_outcomeIn_52 : decode cX6_outcomeIn 52 = .ok (.iload_n 2, 1) := by decide +kernel
theorem dX6_outcomeIn_53 : decode cX6_outcomeIn 53 = .ok (.iadd, 1) := by decide +kernel
theorem dX6_outcomeIn_54 : decode cX6_outcomeIn 54 = .ok (.iload_n 2, 1) := by decide +kernel
theorem dX6_outcomeIn_55 : decode cX6_outcomeIn 55 = .ok (.ifCond .ne 11, 3) := by decide +kernel
theorem dX6_outcomeIn_58 : decode cX6_outcomeIn 58 = .ok (.aload_n 1, 1) := by decide +kernel
theorem dX6_outcomeIn_59 : decode cX6_outcomeIn 59 = .ok (.aload_n 3, 1) := by decide +kernel
theorem dX6_outcomeIn_60 : decode cX6_outcomeIn 60 = .ok (.invokevirtual 361, 3) := by decide +kernel
theorem dX6_outcomeIn_63 : decode cX6_outcomeIn 63 = .ok (.goto 4, 3) := by decide +kernel
theorem dX6_outcomeIn_66 : decode cX6_outcomeIn 66 = .ok (.iconst 0, 1) := by decide +kernel
theorem dX6_outcomeIn_67 : decode cX6_outcomeIn 67 = .ok (.invokevirtual 364, 3) := by decide +kernel
theorem dX6_outcomeIn_70 : decode cX6_outcomeIn 70 = .ok (.ireturn, 1) := by decide +kernel
theorem dX6_beginHour_0 : decode cX6_beginHour 0 = .ok (.aload_n 0, 1) := by decide +kernel
theorem dX6_beginHour_1 : decode cX6_beginHour 1 = .ok (.dup, 1) := by decide +kernel
theorem dX6_beginHour_2 : decode cX6_beginHour 2 = .ok (.getfield 225, 3) := by decide +kernel
theorem dX6_beginHour_5 : decode cX6_beginHour 5 = .ok (.iconst 1, 1) := by decide +kernel
theorem dX6_beginHour_6 : decode cX6_beginHour 6 = .ok (.iadd, 1) := by decide +kernel
theorem dX6_beginHour_7 : decode cX6_beginHour 7 = .ok (.putfield 225, 3) := by decide +kernel
theorem dX6_beginHour_10 : decode cX6_beginHour 10 = .ok (.iconst 0, 1) := by decide +kernel
theorem dX6_beginHour_11 : decode cX6_beginHour 11 = .ok (.istore_n 1, 1) := by decide +kernel
theorem dX6_beginHour_12 : decode cX6_beginHour 12 = .ok (.iload_n 1, 1) := by decide +kernel
theorem dX6_beginHour_13 : decode cX6_beginHour 13 = .ok (.aload_n 0, 1) := by decide +kernel
theorem dX6_beginHour_14 : decode cX6_beginHour 14 = .ok (.getfield 17, 3) := by decide +kernel
theorem dX6_beginHour_17 : decode cX6_beginHour 17 = .ok (.arraylength, 1) := by decide +kernel
theorem dX6_beginHour_18 : decode cX6_beginHour 18 = .ok (.if_icmp .ge 28, 3) := by decide +kernel
theorem dX6_beginHour_21 : decode cX6_beginHour 21 = .ok (.aload_n 0, 1) := by decide +kernel
theorem dX6_beginHour_22 : decode cX6_beginHour 22 = .ok (.getfield 17, 3) := by decide +kernel
theorem dX6_beginHour_25 : decode cX6_beginHour 25 = .ok (.iload_n 1, 1) := by decide +kernel
theorem dX6_beginHour_26 : decode cX6_beginHour 26 = .ok (.aaload, 1) := by decide +kernel
theorem dX6_beginHour_27 : decode cX6_beginHour 27 = .ok (.astore_n 2, 1) := by decide +kernel
theorem dX6_beginHour_28 : decode cX6_beginHour 28 = .ok (.aload_n 2, 1) := by decide +kernel
theorem dX6_beginHour_29 : decode cX6_beginHour 29 = .ok (.ifnull 11, 3) := by decide +kernel
theorem dX6_beginHour_32 : decode cX6_beginHour 32 = .ok (.aload_n 2, 1) := by decide +kernel
theorem dX6_beginHour_33 : decode cX6_beginHour 33 = .ok (.getfield 378, 3) := by decide +kernel
theorem dX6_beginHour_36 : decode cX6_beginHour 36 = .ok (.iconst 0, 1) := by decide +kernel
theorem dX6_beginHour_37 : decode cX6_beginHour 37 = .ok (.invokestatic 381, 3) := by decide +kernel
theorem dX6_beginHour_40 : decode cX6_beginHour 40 = .ok (.iinc 1 1, 3) := by decide +kernel
theorem dX6_beginHour_43 : decode cX6_beginHour 43 = .ok (.goto (-31), 3) := by decide +kernel
theorem dX6_beginHour_46 : decode cX6_beginHour 46 = .ok (.iconst 0, 1) := by decide +kernel
theorem dX6_beginHour_47 : decode cX6_beginHour 47 = .ok (.istore_n 1, 1) := by decide +kernel
theorem dX6_beginHour_48 : decode cX6_beginHour 48 = .ok (.iconst 0, 1) := by decide +kernel
theorem dX6_beginHour_49 : decode cX6_beginHour 49 = .ok (.istore_n 2, 1) := by decide +kernel
theorem dX6_beginHour_50 : decode cX6_beginHour 50 = .ok (.iload_n 2, 1) := by decide +kernel
theorem dX6_beginHour_51 : decode cX6_beginHour 51 = .ok (.iconst 4, 1) := by decide +kernel
theorem dX6_beginHour_52 : decode cX6_beginHour 52 = .ok (.if_icmp .ge 72, 3) := by decide +kernel
theorem dX6_beginHour_55 : decode cX6_beginHour 55 = .ok (.iconst 0, 1) := by decide +kernel
theorem dX6_beginHour_56 : decode cX6_beginHour 56 = .ok (.istore_n 3, 1) := by decide +kernel
theorem dX6_beginHour_57 : decode cX6_beginHour 57 = .ok (.iload_n 3, 1) := by decide +kernel
theorem dX6_beginHour_58 : decode cX6_beginHour 58 = .ok (.bipush 6, 2) := by decide +kernel
theorem dX6_beginHour_60 : decode cX6_beginHour 60 = .ok (.if_icmp .ge 58, 3) := by decide +kernel
theorem dX6_beginHour_63 : decode cX6_beginHour 63 = .ok (.aload_n 0, 1) := by decide +kernel
theorem dX6_beginHour_64 : decode cX6_beginHour 64 = .ok (.iload_n 2, 1) := by decide +kernel
theorem dX6_beginHour_65 : decode cX6_beginHour 65 = .ok (.iload_n 3, 1) := by decide +kernel
theorem dX6_beginHour_66 : decode cX6_beginHour 66 = .ok (.invokevirtual 91, 3) := by decide +kernel
theorem dX6_beginHour_69 : decode cX6_beginHour 69 = .ok (.astore 4, 2) := by decide +kernel
theorem dX6_beginHour_71 : decode cX6_beginHour 71 = .ok (.aload 4, 2) := by decide +kernel
theorem dX6_beginHour_73 : decode cX6_beginHour 73 = .ok (.ifnull 39, 3) := by decide +kernel
theorem dX6_beginHour_76 : decode cX6_beginHour 76 = .ok (.aload 4, 2) := by decide +kernel
theorem dX6_beginHour_78 : decode cX6_beginHour 78 = .ok (.getfield 129, 3) := by decide +kernel
theorem dX6_beginHour_81 : decode cX6_beginHour 81 = .ok (.iconst 1, 1) := by decide +kernel
theorem dX6_beginHour_82 : decode cX6_beginHour 82 = .ok (.if_icmp .ne 30, 3) := by decide +kernel
theorem dX6_beginHour_85 : decode cX6_beginHour 85 = .ok (.aload 4, 2) := by decide +kernel
theorem dX6_beginHour_87 : decode cX6_beginHour 87 = .ok (.getfield 211, 3) := by decide +kernel
theorem dX6_beginHour_90 : decode cX6_beginHour 90 = .ok (.getfield 236, 3) := by decide +kernel
theorem dX6_beginHour_93 : decode cX6_beginHour 93 = .ok (.aload_n 0, 1) := by decide +kernel
theorem dX6_beginHour_94 : decode cX6_beginHour 94 = .ok (.getfield 225, 3) := by decide +kernel
theorem dX6_beginHour_97 : decode cX6_beginHour 97 = .ok (.if_icmp .ne 15, 3) := by decide +kernel
theorem dX6_beginHour_100 : decode cX6_beginHour 100 = .ok (.aload_n 0, 1) := by decide +kernel
theorem dX6_beginHour_101 : decode cX6_beginHour 101 = .ok (.aload 4, 2) := by decide +kernel
theorem dX6_beginHour_103 : decode cX6_beginHour 103 = .ok (.invokevirtual 387, 3) := by decide +kernel
theorem dX6_beginHour_106 : decode cX6_beginHour 106 = .ok (.ifCond .eq 6, 3) := by decide +kernel
theorem dX6_beginHour_109 : decode cX6_beginHour 109 = .ok (.iinc 1 1, 3) := by decide +kernel
theorem dX6_beginHour_112 : decode cX6_beginHour 112 = .ok (.iinc 3 1, 3) := by decide +kernel
theorem dX6_beginHour_115 : decode cX6_beginHour 115 = .ok (.goto (-58), 3) := by decide +kernel
theorem dX6_beginHour_118 : decode cX6_beginHour 118 = .ok (.iinc 2 1, 3) := by decide +kernel
theorem dX6_beginHour_121 : decode cX6_beginHour 121 = .ok (.goto (-71), 3) := by decide +kernel
theorem dX6_beginHour_124 : decode cX6_beginHour 124 = .ok (.iload_n 1, 1) := by decide +kernel
theorem dX6_beginHour_125 : decode cX6_beginHour 125 = .ok (.ireturn, 1) := by decide +kernel
theorem dX6_isGoneAtEnd_0 : decode cX6_isGoneAtEnd 0 = .ok (.aload_n 0, 1) := by decide +kernel
theorem dX6_isGoneAtEnd_1 : decode cX6_isGoneAtEnd 1 = .ok (.aload_n 1, 1) := by decide +kernel
theorem dX6_isGoneAtEnd_2 : decode cX6_isGoneAtEnd 2 = .ok (.aload_n 1, 1) := by decide +kernel
theorem dX6_isGoneAtEnd_3 : decode cX6_isGoneAtEnd 3 = .ok (.getfield 211, 3) := by decide +kernel
theorem dX6_isGoneAtEnd_6 : decode cX6_isGoneAtEnd 6 = .ok (.aload_n 0, 1) := by decide +kernel
theorem dX6_isGoneAtEnd_7 : decode cX6_isGoneAtEnd 7 = .ok (.getfield 225, 3) := by decide +kernel
theorem dX6_isGoneAtEnd_10 : decode cX6_isGoneAtEnd 10 = .ok (.iconst 0, 1) := by decide +kernel
theorem dX6_isGoneAtEnd_11 : decode cX6_isGoneAtEnd 11 = .ok (.invokevirtual 293, 3) := by decide +kernel
theorem dX6_isGoneAtEnd_14 : decode cX6_isGoneAtEnd 14 = .ok (.ifCond .ne 10, 3) := by decide +kernel
theorem dX6_isGoneAtEnd_17 : decode cX6_isGoneAtEnd 17 = .ok (.aload_n 1, 1) := by decide +kernel
theorem dX6_isGoneAtEnd_18 : decode cX6_isGoneAtEnd 18 = .ok (.iconst 2, 1) := by decide +kernel
theorem dX6_isGoneAtEnd_19 : decode cX6_isGoneAtEnd 19 = .ok (.putfield 129, 3) := by decide +kernel
theorem dX6_isGoneAtEnd_22 : decode cX6_isGoneAtEnd 22 = .ok (.iconst 1, 1) := by decide +kernel
theorem dX6_isGoneAtEnd_23 : decode cX6_isGoneAtEnd 23 = .ok (.ireturn, 1) := by decide +kernel
theorem dX6_isGoneAtEnd_24 : decode cX6_isGoneAtEnd 24 = .ok (.aload_n 1, 1) := by decide +kernel
theorem dX6_isGoneAtEnd_25 : decode cX6_isGoneAtEnd 25 = .ok (.getfield 211, 3) := by decide +kernel
theorem dX6_isGoneAtEnd_28 : decode cX6_isGoneAtEnd 28 = .ok (.dup, 1) := by decide +kernel
theorem dX6_isGoneAtEnd_29 : decode cX6_isGoneAtEnd 29 = .ok (.getfield 236, 3) := by decide +kernel
theorem dX6_isGoneAtEnd_32 : decode cX6_isGoneAtEnd 32 = .ok (.bipush 24, 2) := by decide +kernel
theorem dX6_isGoneAtEnd_34 : decode cX6_isGoneAtEnd 34 = .ok (.iadd, 1) := by decide +kernel
theorem dX6_isGoneAtEnd_35 : decode cX6_isGoneAtEnd 35 = .ok (.putfield 236, 3) := by decide +kernel
theorem dX6_isGoneAtEnd_38 : decode cX6_isGoneAtEnd 38 = .ok (.aload_n 1, 1) := by decide +kernel
theorem dX6_isGoneAtEnd_39 : decode cX6_isGoneAtEnd 39 = .ok (.dup, 1) := by decide +kernel
theorem dX6_isGoneAtEnd_40 : decode cX6_isGoneAtEnd 40 = .ok (.getfield 297, 3) := by decide +kernel
theorem dX6_isGoneAtEnd_43 : decode cX6_isGoneAtEnd 43 = .ok (.iconst 1, 1) := by decide +kernel
theorem dX6_isGoneAtEnd_44 : decode cX6_isGoneAtEnd 44 = .ok (.iadd, 1) := by decide +kernel
theorem dX6_isGoneAtEnd_45 : decode cX6_isGoneAtEnd 45 = .ok (.putfield 297, 3) := by decide +kernel
theorem dX6_isGoneAtEnd_48 : decode cX6_isGoneAtEnd 48 = .ok (.iconst 0, 1) := by decide +kernel
theorem dX6_isGoneAtEnd_49 : decode cX6_isGoneAtEnd 49 = .ok (.ireturn, 1) := by decide +kernel
theorem dX6_startRetirement_0 : decode cX6_startRetirement 0 = .ok (.aload_n 2, 1) := by decide +kernel
theorem dX6_startRetirement_1 : decode cX6_startRetirement 1 = .ok (.aload_n 0, 1) := by decide +kernel
theorem dX6_startRetirement_2 : decode cX6_startRetirement 2 = .ok (.getfield 225, 3) := by decide +kernel
theorem dX6_startRetirement_5 : decode cX6_startRetirement 5 = .ok (.iload_n 3, 1) := by decide +kernel
theorem dX6_startRetirement_6 : decode cX6_startRetirement 6 = .ok (.invokevirtual 390, 3) := by decide +kernel
theorem dX6_startRetirement_9 : decode cX6_startRetirement 9 = .ok (.iconst 0, 1) := by decide +kernel
theorem dX6_startRetirement_10 : decode cX6_startRetirement 10 = .ok (.istore 4, 2) := by decide +kernel
theorem dX6_startRetirement_12 : decode cX6_startRetirement 12 = .ok (.iconst 0, 1) := by decide +kernel
theorem dX6_startRetirement_13 : decode cX6_startRetirement 13 = .ok (.istore 5, 2) := by decide +kernel
theorem dX6_startRetirement_15 : decode cX6_startRetirement 15 = .ok (.iload 5, 2) := by decide +kernel
theorem dX6_startRetirement_17 : decode cX6_startRetirement 17 = .ok (.aload_n 0, 1) := by decide +kernel
theorem dX6_startRetirement_18 : decode cX6_startRetirement 18 = .ok (.getfield 17, 3) := by decide +kernel
theorem dX6_startRetirement_21 : decode cX6_startRetirement 21 = .ok (.arraylength, 1) := by decide +kernel
theorem dX6_startRetirement_22 : decode cX6_startRetirement 22 = .ok (.if_icmp .ge 55, 3) := by decide +kernel
theorem dX6_startRetirement_25 : decode cX6_startRetirement 25 = .ok (.aload_n 0, 1) := by decide +kernel
theorem dX6_startRetirement_26 : decode cX6_startRetirement 26 = .ok (.getfield 17, 3) := by decide +kernel
theorem dX6_startRetirement_29 : decode cX6_startRetirement 29 = .ok (.iload 5, 2) := by decide +kernel
theorem dX6_startRetirement_31 : decode cX6_startRetirement 31 = .ok (.aaload, 1) := by decide +kernel
theorem dX6_startRetirement_32 : decode cX6_startRetirement 32 = .ok (.astore 6, 2) := by decide +kernel
theorem dX6_startRetirement_34 : decode cX6_startRetirement 34 = .ok (.aload 6, 2) := by decide +kernel
theorem dX6_startRetirement_36 : decode cX6_startRetirement 36 = .ok (.ifnull 35, 3) := by decide +kernel
theorem dX6_startRetirement_39 : decode cX6_startRetirement 39 = .ok (.aload 6, 2) := by decide +kernel
theorem dX6_startRetirement_41 : decode cX6_startRetirement 41 = .ok (.aload_n 1, 1) := by decide +kernel
theorem dX6_startRetirement_42 : decode cX6_startRetirement 42 = .ok (.aload_n 0, 1) := by decide +kernel
theorem dX6_startRetirement_43 : decode cX6_startRetirement 43 = .ok (.getfield 225, 3) := by decide +kernel
theorem dX6_startRetirement_46 : decode cX6_startRetirement 46 = .ok (.invokevirtual 323, 3) := by decide +kernel
theorem dX6_startRetirement_49 : decode cX6_startRetirement 49 = .ok (.ifCond .eq 22, 3) := by decide +kernel
theorem dX6_startRetirement_52 : decode cX6_startRetirement 52 = .ok (.aload_n 2, 1) := by decide +kernel
theorem dX6_startRetirement_53 : decode cX6_startRetirement 53 = .ok (.aload 6, 2) := by decide +kernel
theorem dX6_startRetirement_55 : decode cX6_startRetirement 55 = .ok (.getfield 305, 3) := by decide +kernel
theorem dX6_startRetirement_58 : decode cX6_startRetirement 58 = .ok (.aload_n 0, 1) := by decide +kernel
theorem dX6_startRetirement_59 : decode cX6_startRetirement 59 = .ok (.getfield 225, 3) := by decide +kernel
theorem dX6_startRetirement_62 : decode cX6_startRetirement 62 = .ok (.invokevirtual 358, 3) := by decide +kernel
theorem dX6_startRetirement_65 : decode cX6_startRetirement 65 = .ok (.ifCond .eq 6, 3) := by decide +kernel
theorem dX6_startRetirement_68 : decode cX6_startRetirement 68 = .ok (.iinc 4 1, 3) := by decide +kernel
theorem dX6_startRetirement_71 : decode cX6_startRetirement 71 = .ok (.iinc 5 1, 3) := by decide +kernel
theorem dX6_startRetirement_74 : decode cX6_startRetirement 74 = .ok (.goto (-59), 3) := by decide +kernel
theorem dX6_startRetirement_77 : decode cX6_startRetirement 77 = .ok (.iload 4, 2) := by decide +kernel
theorem dX6_startRetirement_79 : decode cX6_startRetirement 79 = .ok (.ireturn, 1) := by decide +kernel
theorem dX6_countHinderers_0 : decode cX6_countHinderers 0 = .ok (.iconst 0, 1) := by decide +kernel
theorem dX6_countHinderers_1 : decode cX6_countHinderers 1 = .ok (.istore 5, 2) := by decide +kernel
theorem dX6_countHinderers_3 : decode cX6_countHinderers 3 = .ok (.iconst 0, 1) := by decide +kernel
theorem dX6_countHinderers_4 : decode cX6_countHinderers 4 = .ok (.istore 6, 2) := by decide +kernel
theorem dX6_countHinderers_6 : decode cX6_countHinderers 6 = .ok (.iload 6, 2) := by decide +kernel
theorem dX6_countHinderers_8 : decode cX6_countHinderers 8 = .ok (.aload_n 0, 1) := by decide +kernel
theorem dX6_countHinderers_9 : decode cX6_countHinderers 9 = .ok (.getfield 17, 3) := by decide +kernel
theorem dX6_countHinderers_12 : decode cX6_countHinderers 12 = .ok (.arraylength, 1) := by decide +kernel
theorem dX6_countHinderers_13 : decode cX6_countHinderers 13 = .ok (.if_icmp .ge 63, 3) := by decide +kernel
theorem dX6_countHinderers_16 : decode cX6_countHinderers 16 = .ok (.aload_n 0, 1) := by decide +kernel
theorem dX6_countHinderers_17 : decode cX6_countHinderers 17 = .ok (.getfield 17, 3) := by decide +kernel
theorem dX6_countHinderers_20 : decode cX6_countHinderers 20 = .ok (.iload 6, 2) := by decide +kernel
theorem dX6_countHinderers_22 : decode cX6_countHinderers 22 = .ok (.aaload, 1) := by decide +kernel
theorem dX6_countHinderers_23 : decode cX6_countHinderers 23 = .ok (.astore 7, 2) := by decide +kernel
theorem dX6_countHinderers_25 : decode cX6_countHinderers 25 = .ok (.aload 7, 2) := by decide +kernel
theorem dX6_countHinderers_27 : decode cX6_countHinderers 27 = .ok (.ifnull 43, 3) := by decide +kernel
theorem dX6_countHinderers_30 : decode cX6_countHinderers 30 = .ok (.aload_n 2, 1) := by decide +kernel
theorem dX6_countHinderers_31 : decode cX6_countHinderers 31 = .ok (.aload 7, 2) := by decide +kernel
theorem dX6_countHinderers_33 : decode cX6_countHinderers 33 = .ok (.getfield 305, 3) := by decide +kernel
theorem dX6_countHinderers_36 : decode cX6_countHinderers 36 = .ok (.iload_n 3, 1) := by decide +kernel
theorem dX6_countHinderers_37 : decode cX6_countHinderers 37 = .ok (.invokevirtual 228, 3) := by decide +kernel
theorem dX6_countHinderers_40 : decode cX6_countHinderers 40 = .ok (.ifCond .ne 30, 3) := by decide +kernel
theorem dX6_countHinderers_43 : decode cX6_countHinderers 43 = .ok (.aload_n 0, 1) := by decide +kernel
theorem dX6_countHinderers_44 : decode cX6_countHinderers 44 = .ok (.aload 7, 2) := by decide +kernel
theorem dX6_countHinderers_46 : decode cX6_countHinderers 46 = .ok (.aload_n 1, 1) := by decide +kernel
theorem dX6_countHinderers_47 : decode cX6_countHinderers 47 = .ok (.iload_n 3, 1) := by decide +kernel
theorem dX6_countHinderers_48 : decode cX6_countHinderers 48 = .ok (.iload 4, 2) := by decide +kernel
theorem dX6_countHinderers_50 : decode cX6_countHinderers 50 = .ok (.invokevirtual 394, 3) := by decide +kernel
theorem dX6_countHinderers_53 : decode cX6_countHinderers 53 = .ok (.ifCond .eq 17, 3) := by decide +kernel
theorem dX6_countHinderers_56 : decode cX6_countHinderers 56 = .ok (.aload_n 0, 1) := by decide +kernel
theorem dX6_countHinderers_57 : decode cX6_countHinderers 57 = .ok (.aload 7, 2) := by decide +kernel
theorem dX6_countHinderers_59 : decode cX6_countHinderers 59 = .ok (.aload_n 1, 1) := by decide +kernel
theorem dX6_countHinderers_60 : decode cX6_countHinderers 60 = .ok (.aload_n 1, 1) := by decide +kernel
theorem dX6_countHinderers_61 : decode cX6_countHinderers 61 = .ok (.invokevirtual 338, 3) := by decide +kernel
theorem dX6_countHinderers_64 : decode cX6_countHinderers 64 = .ok (.ifCond .ne 6, 3) := by decide +kernel
theorem dX6_countHinderers_67 : decode cX6_countHinderers 67 = .ok (.iinc 5 1, 3) := by decide +kernel
theorem dX6_countHinderers_70 : decode cX6_countHinderers 70 = .ok (.iinc 6 1, 3) := by decide +kernel
theorem dX6_countHinderers_73 : decode cX6_countHinderers 73 = .ok (.goto (-67), 3) := by decide +kernel
theorem dX6_countHinderers_76 : decode cX6_countHinderers 76 = .ok (.iload 5, 2) := by decide +kernel
theorem dX6_countHinderers_78 : decode cX6_countHinderers 78 = .ok (.ireturn, 1) := by decide +kernel
theorem dX6_isCallerThen_0 : decode cX6_isCallerThen 0 = .ok (.aload_n 1, 1) := by decide +kernel
theorem dX6_isCallerThen_1 : decode cX6_isCallerThen 1 = .ok (.aload_n 2, 1) := by decide +kernel
theorem dX6_isCallerThen_2 : decode cX6_isCallerThen 2 = .ok (.iload_n 3, 1) := by decide +kernel
theorem dX6_isCallerThen_3 : decode cX6_isCallerThen 3 = .ok (.invokevirtual 323, 3) := by decide +kernel
theorem dX6_isCallerThen_6 : decode cX6_isCallerThen 6 = .ok (.ifCond .ne 28, 3) := by decide +kernel
theorem dX6_isCallerThen_9 : decode cX6_isCallerThen 9 = .ok (.iload 4, 2) := by decide +kernel
theorem dX6_isCallerThen_11 : decode cX6_isCallerThen 11 = .ok (.ifCond .eq 27, 3) := by decide +kernel
theorem dX6_isCallerThen_14 : decode cX6_isCallerThen 14 = .ok (.aload_n 1, 1) := by decide +kernel
theorem dX6_isCallerThen_15 : decode cX6_isCallerThen 15 = .ok (.getfield 159, 3) := by decide +kernel
theorem dX6_isCallerThen_18 : decode cX6_isCallerThen 18 = .ok (.aload_n 2, 1) := by decide +kernel
theorem dX6_isCallerThen_19 : decode cX6_isCallerThen 19 = .ok (.if_acmp .ne 19, 3) := by decide +kernel
theorem dX6_isCallerThen_22 : decode cX6_isCallerThen 22 = .ok (.aload_n 1, 1) := by decide +kernel
theorem dX6_isCallerThen_23 : decode cX6_isCallerThen 23 = .ok (.aload_n 2, 1) := by decide +kernel
theorem dX6_isCallerThen_24 : decode cX6_isCallerThen 24 = .ok (.aload_n 0, 1) := by decide +kernel
theorem dX6_isCallerThen_25 : decode cX6_isCallerThen 25 = .ok (.getfield 225, 3) := by decide +kernel
theorem dX6_isCallerThen_28 : decode cX6_isCallerThen 28 = .ok (.invokevirtual 323, 3) := by decide +kernel
theorem dX6_isCallerThen_31 : decode cX6_isCallerThen 31 = .ok (.ifCond .eq 7, 3) := by decide +kernel
theorem dX6_isCallerThen_34 : decode cX6_isCallerThen 34 = .ok (.iconst 1, 1) := by decide +kernel
theorem dX6_isCallerThen_35 : decode cX6_isCallerThen 35 = .ok (.goto 4, 3) := by decide +kernel
theorem dX6_isCallerThen_38 : decode cX6_isCallerThen 38 = .ok (.iconst 0, 1) := by decide +kernel
theorem dX6_isCallerThen_39 : decode cX6_isCallerThen 39 = .ok (.ireturn, 1) := by decide +kernel
theorem dX6_hoursTillGone_0 : decode cX6_hoursTillGone 0 = .ok (.aload_n 2, 1) := by decide +kernel
theorem dX6_hoursTillGone_1 : decode cX6_hoursTillGone 1 = .ok (.getfield 236, 3) := by decide +kernel
theorem dX6_hoursTillGone_4 : decode cX6_hoursTillGone 4 = .ok (.istore 4, 2) := by decide +kernel
theorem dX6_hoursTillGone_6 : decode cX6_hoursTillGone 6 = .ok (.iconst 0, 1) := by decide +kernel
theorem dX6_hoursTillGone_7 : decode cX6_hoursTillGone 7 = .ok (.istore 5, 2) := by decide +kernel
theorem dX6_hoursTillGone_9 : decode cX6_hoursTillGone 9 = .ok (.iload 5, 2) := by decide +kernel
theorem dX6_hoursTillGone_11 : decode cX6_hoursTillGone 11 = .ok (.bipush 100, 2) := by decide +kernel
theorem dX6_hoursTillGone_13 : decode cX6_hoursTillGone 13 = .ok (.if_icmp .ge 32, 3) := by decide +kernel
theorem dX6_hoursTillGone_16 : decode cX6_hoursTillGone 16 = .ok (.aload_n 0, 1) := by decide +kernel
theorem dX6_hoursTillGone_17 : decode cX6_hoursTillGone 17 = .ok (.aload_n 1, 1) := by decide +kernel
theorem dX6_hoursTillGone_18 : decode cX6_hoursTillGone 18 = .ok (.aload_n 2, 1) := by decide +kernel
theorem dX6_hoursTillGone_19 : decode cX6_hoursTillGone 19 = .ok (.iload 4, 2) := by decide +kernel
theorem dX6_hoursTillGone_21 : decode cX6_hoursTillGone 21 = .ok (.iload_n 3, 1) := by decide +kernel
theorem dX6_hoursTillGone_22 : decode cX6_hoursTillGone 22 = .ok (.invokevirtual 293, 3) := by decide +kernel
theorem dX6_hoursTillGone_25 : decode cX6_hoursTillGone 25 = .ok (.ifCond .ne 11, 3) := by decide +kernel
theorem dX6_hoursTillGone_28 : decode cX6_hoursTillGone 28 = .ok (.iload 4, 2) := by decide +kernel
theorem dX6_hoursTillGone_30 : decode cX6_hoursTillGone 30 = .ok (.aload_n 0, 1) := by decide +kernel
theorem dX6_hoursTillGone_31 : decode cX6_hoursTillGone 31 = .ok (.getfield 225, 3) := by decide +kernel
theorem dX6_hoursTillGone_34 : decode cX6_hoursTillGone 34 = .ok (.isub, 1) := by decide +kernel
theorem dX6_hoursTillGone_35 : decode cX6_hoursTillGone 35 = .ok (.ireturn, 1) := by decide +kernel
theorem dX6_hoursTillGone_36 : decode cX6_hoursTillGone 36 = .ok (.iinc 4 24, 3) := by decide +kernel
theorem dX6_hoursTillGone_39 : decode cX6_hoursTillGone 39 = .ok (.iinc 5 1, 3) := by decide +kernel
theorem dX6_hoursTillGone_42 : decode cX6_hoursTillGone 42 = .ok (.goto (-33), 3) := by decide +kernel
theorem dX6_hoursTillGone_45 : decode cX6_hoursTillGone 45 = .ok (.iconst (-1), 1) := by decide +kernel
theorem dX6_hoursTillGone_46 : decode cX6_hoursTillGone 46 = .ok (.ireturn, 1) := by decide +kernel
theorem dX6_hoursLeft_0 : decode cX6_hoursLeft 0 = .ok (.aload_n 1, 1) := by decide +kernel
theorem dX6_hoursLeft_1 : decode cX6_hoursLeft 1 = .ok (.getfield 129, 3) := by decide +kernel
theorem dX6_hoursLeft_4 : decode cX6_hoursLeft 4 = .ok (.ifCond .ne 5, 3) := by decide +kernel
theorem dX6_hoursLeft_7 : decode cX6_hoursLeft 7 = .ok (.iconst (-1), 1) := by decide +kernel
theorem dX6_hoursLeft_8 : decode cX6_hoursLeft 8 = .ok (.ireturn, 1) := by decide +kernel
theorem dX6_hoursLeft_9 : decode cX6_hoursLeft 9 = .ok (.aload_n 1, 1) := by decide +kernel
theorem dX6_hoursLeft_10 : decode cX6_hoursLeft 10 = .ok (.getfield 129, 3) := by decide +kernel
theorem dX6_hoursLeft_13 : decode cX6_hoursLeft 13 = .ok (.iconst 2, 1) := by decide +kernel
theorem dX6_hoursLeft_14 : decode cX6_hoursLeft 14 = .ok (.if_icmp .ne 7, 3) := by decide +kernel
theorem dX6_hoursLeft_17 : decode cX6_hoursLeft 17 = .ok (.iconst 0, 1) := by decide +kernel
theorem dX6_hoursLeft_18 : decode cX6_hoursLeft 18 = .ok (.goto 13, 3) := by decide +kernel
theorem dX6_hoursLeft_21 : decode cX6_hoursLeft 21 = .ok (.aload_n 0, 1) := by decide +kernel
theorem dX6_hoursLeft_22 : decode cX6_hoursLeft 22 = .ok (.aload_n 1, 1) := by decide +kernel
theorem dX6_hoursLeft_23 : decode cX6_hoursLeft 23 = .ok (.aload_n 1, 1) := by decide +kernel
theorem dX6_hoursLeft_24 : decode cX6_hoursLeft 24 = .ok (.getfield 211, 3) := by decide +kernel
theorem dX6_hoursLeft_27 : decode cX6_hoursLeft 27 = .ok (.iconst 1, 1) := by decide +kernel
theorem dX6_hoursLeft_28 : decode cX6_hoursLeft 28 = .ok (.invokevirtual 267, 3) := by decide +kernel
theorem dX6_hoursLeft_31 : decode cX6_hoursLeft 31 = .ok (.ireturn, 1) := by decide +kernel
theorem dX6_digestVersion_0 : decode cX6_digestVersion 0 = .ok (.lload_n 1, 1) := by decide +kernel
theorem dX6_digestVersion_1 : decode cX6_digestVersion 1 = .ok (.lstore 4, 2) := by decide +kernel
theorem dX6_digestVersion_3 : decode cX6_digestVersion 3 = .ok (.iconst 0, 1) := by decide +kernel
theorem dX6_digestVersion_4 : decode cX6_digestVersion 4 = .ok (.istore 6, 2) := by decide +kernel
theorem dX6_digestVersion_6 : decode cX6_digestVersion 6 = .ok (.iload 6, 2) := by decide +kernel
theorem dX6_digestVersion_8 : decode cX6_digestVersion 8 = .ok (.bipush 10, 2) := by decide +kernel
theorem dX6_digestVersion_10 : decode cX6_digestVersion 10 = .ok (.if_icmp .gt 26, 3) := by decide +kernel
theorem dX6_digestVersion_13 : decode cX6_digestVersion 13 = .ok (.lload 4, 2) := by decide +kernel
theorem dX6_digestVersion_15 : decode cX6_digestVersion 15 = .ok (.ldc2_w 273, 3) := by decide +kernel
theorem dX6_digestVersion_18 : decode cX6_digestVersion 18 = .ok (.lmul, 1) := by decide +kernel
theorem dX6_digestVersion_19 : decode cX6_digestVersion 19 = .ok (.aload_n 0, 1) := by decide +kernel
theorem dX6_digestVersion_20 : decode cX6_digestVersion 20 = .ok (.aload_n 3, 1) := by decide +kernel
theorem dX6_digestVersion_21 : decode cX6_digestVersion 21 = .ok (.iload 6, 2) := by decide +kernel
theorem dX6_digestVersion_23 : decode cX6_digestVersion 23 = .ok (.invokevirtual 99, 3) := by decide +kernel
theorem dX6_digestVersion_26 : decode cX6_digestVersion 26 = .ok (.i2l, 1) := by decide +kernel
theorem dX6_digestVersion_27 : decode cX6_digestVersion 27 = .ok (.ladd, 1) := by decide +kernel
theorem dX6_digestVersion_28 : decode cX6_digestVersion 28 = .ok (.lstore 4, 2) := by decide +kernel
theorem dX6_digestVersion_30 : decode cX6_digestVersion 30 = .ok (.iinc 6 1, 3) := by decide +kernel
theorem dX6_digestVersion_33 : decode cX6_digestVersion 33 = .ok (.goto (-27), 3) := by decide +kernel
theorem dX6_digestVersion_36 : decode cX6_digestVersion 36 = .ok (.lload 4, 2) := by decide +kernel
theorem dX6_digestVersion_38 : decode cX6_digestVersion 38 = .ok (.ldc2_w 273, 3) := by decide +kernel
theorem dX6_digestVersion_41 : decode cX6_digestVersion 41 = .ok (.lmul, 1) := by decide +kernel
theorem dX6_digestVersion_42 : decode cX6_digestVersion 42 = .ok (.aload_n 0, 1) := by decide +kernel
theorem dX6_digestVersion_43 : decode cX6_digestVersion 43 = .ok (.aload_n 3, 1) := by decide +kernel
theorem dX6_digestVersion_44 : decode cX6_digestVersion 44 = .ok (.invokevirtual 260, 3) := by decide +kernel
theorem dX6_digestVersion_47 : decode cX6_digestVersion 47 = .ok (.i2l, 1) := by decide +kernel
theorem dX6_digestVersion_48 : decode cX6_digestVersion 48 = .ok (.ladd, 1) := by decide +kernel
theorem dX6_digestVersion_49 : decode cX6_digestVersion 49 = .ok (.lstore 4, 2) := by decide +kernel
theorem dX6_digestVersion_51 : decode cX6_digestVersion 51 = .ok (.iconst 0, 1) := by decide +kernel
theorem dX6_digestVersion_52 : decode cX6_digestVersion 52 = .ok (.istore 6, 2) := by decide +kernel
theorem dX6_digestVersion_54 : decode cX6_digestVersion 54 = .ok (.iload 6, 2) := by decide +kernel
theorem dX6_digestVersion_56 : decode cX6_digestVersion 56 = .ok (.iconst 5, 1) := by decide +kernel
theorem dX6_digestVersion_57 : decode cX6_digestVersion 57 = .ok (.if_icmp .ge 26, 3) := by decide +kernel
theorem dX6_digestVersion_60 : decode cX6_digestVersion 60 = .ok (.lload 4, 2) := by decide +kernel
theorem dX6_digestVersion_62 : decode cX6_digestVersion 62 = .ok (.ldc2_w 273, 3) := by decide +kernel
theorem dX6_digestVersion_65 : decode cX6_digestVersion 65 = .ok (.lmul, 1) := by decide +kernel
theorem dX6_digestVersion_66 : decode cX6_digestVersion 66 = .ok (.aload_n 0, 1) := by decide +kernel
theorem dX6_digestVersion_67 : decode cX6_digestVersion 67 = .ok (.iload 6, 2) := by decide +kernel
theorem dX6_digestVersion_69 : decode cX6_digestVersion 69 = .ok (.aload_n 3, 1) := by decide +kernel
theorem dX6_digestVersion_70 : decode cX6_digestVersion 70 = .ok (.invokevirtual 242, 3) := by decide +kernel
theorem dX6_digestVersion_73 : decode cX6_digestVersion 73 = .ok (.i2l, 1) := by decide +kernel
theorem dX6_digestVersion_74 : decode cX6_digestVersion 74 = .ok (.ladd, 1) := by decide +kernel
theorem dX6_digestVersion_75 : decode cX6_digestVersion 75 = .ok (.lstore 4, 2) := by decide +kernel
theorem dX6_digestVersion_77 : decode cX6_digestVersion 77 = .ok (.iinc 6 1, 3) := by decide +kernel
theorem dX6_digestVersion_80 : decode cX6_digestVersion 80 = .ok (.goto (-26), 3) := by decide +kernel
theorem dX6_digestVersion_83 : decode cX6_digestVersion 83 = .ok (.lload 4, 2) := by decide +kernel
theorem dX6_digestVersion_85 : decode cX6_digestVersion 85 = .ok (.lreturn, 1) := by decide +kernel
theorem dX6_digestClient_0 : decode cX6_digestClient 0 = .ok (.lload_n 1, 1) := by decide +kernel
theorem dX6_digestClient_1 : decode cX6_digestClient 1 = .ok (.lstore 4, 2) := by decide +kernel
theorem dX6_digestClient_3 : decode cX6_digestClient 3 = .ok (.iconst 0, 1) := by decide +kernel
theorem dX6_digestClient_4 : decode cX6_digestClient 4 = .ok (.istore 6, 2) := by decide +kernel
theorem dX6_digestClient_6 : decode cX6_digestClient 6 = .ok (.iload 6, 2) := by decide +kernel
theorem dX6_digestClient_8 : decode cX6_digestClient 8 = .ok (.bipush 8, 2) := by decide +kernel
theorem dX6_digestClient_10 : decode cX6_digestClient 10 = .ok (.if_icmp .gt 26, 3) := by decide +kernel
theorem dX6_digestClient_13 : decode cX6_digestClient 13 = .ok (.lload 4, 2) := by decide +kernel
theorem dX6_digestClient_15 : decode cX6_digestClient 15 = .ok (.ldc2_w 273, 3) := by decide +kernel
theorem dX6_digestClient_18 : decode cX6_digestClient 18 = .ok (.lmul, 1) := by decide +kernel
theorem dX6_digestClient_19 : decode cX6_digestClient 19 = .ok (.aload_n 0, 1) := by decide +kernel
theorem dX6_digestClient_20 : decode cX6_digestClient 20 = .ok (.aload_n 3, 1) := by decide +kernel
theorem dX6_digestClient_21 : decode cX6_digestClient 21 = .ok (.iload 6, 2) := by decide +kernel
theorem dX6_digestClient_23 : decode cX6_digestClient 23 = .ok (.invokevirtual 177, 3) := by decide +kernel
theorem dX6_digestClient_26 : decode cX6_digestClient 26 = .ok (.i2l, 1) := by decide +kernel
theorem dX6_digestClient_27 : decode cX6_digestClient 27 = .ok (.ladd, 1) := by decide +kernel
theorem dX6_digestClient_28 : decode cX6_digestClient 28 = .ok (.lstore 4, 2) := by decide +kernel
theorem dX6_digestClient_30 : decode cX6_digestClient 30 = .ok (.iinc 6 1, 3) := by decide +kernel
theorem dX6_digestClient_33 : decode cX6_digestClient 33 = .ok (.goto (-27), 3) := by decide +kernel
theorem dX6_digestClient_36 : decode cX6_digestClient 36 = .ok (.aload_n 0, 1) := by decide +kernel
theorem dX6_digestClient_37 : decode cX6_digestClient 37 = .ok (.aload_n 3, 1) := by decide +kernel
theorem dX6_digestClient_38 : decode cX6_digestClient 38 = .ok (.invokevirtual 181, 3) := by decide +kernel
theorem dX6_digestClient_41 : decode cX6_digestClient 41 = .ok (.pop, 1) := by decide +kernel
theorem dX6_digestClient_42 : decode cX6_digestClient 42 = .ok (.iconst 0, 1) := by decide +kernel
theorem dX6_digestClient_43 : decode cX6_digestClient 43 = .ok (.istore 6, 2) := by decide +kernel
theorem dX6_digestClient_45 : decode cX6_digestClient 45 = .ok (.iload 6, 2) := by decide +kernel
theorem dX6_digestClient_47 : decode cX6_digestClient 47 = .ok (.aload_n 0, 1) := by decide +kernel
theorem dX6_digestClient_48 : decode cX6_digestClient 48 = .ok (.getfield 30, 3) := by decide +kernel
theorem dX6_digestClient_51 : decode cX6_digestClient 51 = .ok (.getfield 185, 3) := by decide +kernel
theorem dX6_digestClient_54 : decode cX6_digestClient 54 = .ok (.if_icmp .ge 42, 3) := by decide +kernel
theorem dX6_digestClient_57 : decode cX6_digestClient 57 = .ok (.iload 6, 2) := by decide +kernel
theorem dX6_digestClient_59 : decode cX6_digestClient 59 = .ok (.aload_n 0, 1) := by decide +kernel
theorem dX6_digestClient_60 : decode cX6_digestClient 60 = .ok (.getfield 30, 3) := by decide +kernel
theorem dX6_digestClient_63 : decode cX6_digestClient 63 = .ok (.getfield 188, 3) := by decide +kernel
theorem dX6_digestClient_66 : decode cX6_digestClient 66 = .ok (.arraylength, 1) := by decide +kernel
theorem dX6_digestClient_67 : decode cX6_digestClient 67 = .ok (.if_icmp .ge 29, 3) := by decide +kernel
theorem dX6_digestClient_70 : decode cX6_digestClient 70 = .ok (.lload 4, 2) := by decide +kernel
theorem dX6_digestClient_72 : decode cX6_digestClient 72 = .ok (.ldc2_w 273, 3) := by decide +kernel
theorem dX6_digestClient_75 : decode cX6_digestClient 75 = .ok (.lmul, 1) := by decide +kernel
theorem dX6_digestClient_76 : decode cX6_digestClient 76 = .ok (.aload_n 0, 1) := by decide +kernel
theorem dX6_digestClient_77 : decode cX6_digestClient 77 = .ok (.getfield 30, 3) := by decide +kernel
theorem dX6_digestClient_80 : decode cX6_digestClient 80 = .ok (.getfield 188, 3) := by decide +kernel
theorem dX6_digestClient_83 : decode cX6_digestClient 83 = .ok (.iload 6, 2) := by decide +kernel
theorem dX6_digestClient_85 : decode cX6_digestClient 85 = .ok (.iaload, 1) := by decide +kernel
theorem dX6_digestClient_86 : decode cX6_digestClient 86 = .ok (.i2l, 1) := by decide +kernel
theorem dX6_digestClient_87 : decode cX6_digestClient 87 = .ok (.ladd, 1) := by decide +kernel
theorem dX6_digestClient_88 : decode cX6_digestClient 88 = .ok (.lstore 4, 2) := by decide +kernel
theorem dX6_digestClient_90 : decode cX6_digestClient 90 = .ok (.iinc 6 1, 3) := by decide +kernel
theorem dX6_digestClient_93 : decode cX6_digestClient 93 = .ok (.goto (-48), 3) := by decide +kernel
theorem dX6_digestClient_96 : decode cX6_digestClient 96 = .ok (.iconst 0, 1) := by decide +kernel
theorem dX6_digestClient_97 : decode cX6_digestClient 97 = .ok (.istore 6, 2) := by decide +kernel
theorem dX6_digestClient_99 : decode cX6_digestClient 99 = .ok (.iload 6, 2) := by decide +kernel
theorem dX6_digestClient_101 : decode cX6_digestClient 101 = .ok (.bipush 6, 2) := by decide +kernel
theorem dX6_digestClient_103 : decode cX6_digestClient 103 = .ok (.if_icmp .ge 42, 3) := by decide +kernel
theorem dX6_digestClient_106 : decode cX6_digestClient 106 = .ok (.aload_n 3, 1) := by decide +kernel
theorem dX6_digestClient_107 : decode cX6_digestClient 107 = .ok (.getfield 141, 3) := by decide +kernel
theorem dX6_digestClient_110 : decode cX6_digestClient 110 = .ok (.iload 6, 2) := by decide +kernel
theorem dX6_digestClient_112 : decode cX6_digestClient 112 = .ok (.invokevirtual 145, 3) := by decide +kernel
theorem dX6_digestClient_115 : decode cX6_digestClient 115 = .ok (.astore 7, 2) := by decide +kernel
theorem dX6_digestClient_117 : decode cX6_digestClient 117 = .ok (.aload 7, 2) := by decide +kernel
theorem dX6_digestClient_119 : decode cX6_digestClient 119 = .ok (.ifnull 20, 3) := by decide +kernel
theorem dX6_digestClient_122 : decode cX6_digestClient 122 = .ok (.lload 4, 2) := by decide +kernel
theorem dX6_digestClient_124 : decode cX6_digestClient 124 = .ok (.ldc2_w 273, 3) := by decide +kernel
theorem dX6_digestClient_127 : decode cX6_digestClient 127 = .ok (.lmul, 1) := by decide +kernel
theorem dX6_digestClient_128 : decode cX6_digestClient 128 = .ok (.aload_n 0, 1) := by decide +kernel
theorem dX6_digestClient_129 : decode cX6_digestClient 129 = .ok (.aload_n 3, 1) := by decide +kernel
theorem dX6_digestClient_130 : decode cX6_digestClient 130 = .ok (.aload 7, 2) := by decide +kernel
theorem dX6_digestClient_132 : decode cX6_digestClient 132 = .ok (.invokevirtual 205, 3) := by decide +kernel
theorem dX6_digestClient_135 : decode cX6_digestClient 135 = .ok (.i2l, 1) := by decide +kernel
theorem dX6_digestClient_136 : decode cX6_digestClient 136 = .ok (.ladd, 1) := by decide +kernel
theorem dX6_digestClient_137 : decode cX6_digestClient 137 = .ok (.lstore 4, 2) := by decide +kernel
theorem dX6_digestClient_139 : decode cX6_digestClient 139 = .ok (.iinc 6 1, 3) := by decide +kernel
theorem dX6_digestClient_142 : decode cX6_digestClient 142 = .ok (.goto (-43), 3) := by decide +kernel
theorem dX6_digestClient_145 : decode cX6_digestClient 145 = .ok (.lload 4, 2) := by decide +kernel
theorem dX6_digestClient_147 : decode cX6_digestClient 147 = .ok (.ldc2_w 273, 3) := by decide +kernel
theorem dX6_digestClient_150 : decode cX6_digestClient 150 = .ok (.lmul, 1) := by decide +kernel
theorem dX6_digestClient_151 : decode cX6_digestClient 151 = .ok (.aload_n 0, 1) := by decide +kernel
theorem dX6_digestClient_152 : decode cX6_digestClient 152 = .ok (.aload_n 3, 1) := by decide +kernel
theorem dX6_digestClient_153 : decode cX6_digestClient 153 = .ok (.iconst 0, 1) := by decide +kernel
theorem dX6_digestClient_154 : decode cX6_digestClient 154 = .ok (.invokevirtual 257, 3) := by decide +kernel
theorem dX6_digestClient_157 : decode cX6_digestClient 157 = .ok (.i2l, 1) := by decide +kernel
theorem dX6_digestClient_158 : decode cX6_digestClient 158 = .ok (.ladd, 1) := by decide +kernel
theorem dX6_digestClient_159 : decode cX6_digestClient 159 = .ok (.lstore 4, 2) := by decide +kernel
theorem dX6_digestClient_161 : decode cX6_digestClient 161 = .ok (.lload 4, 2) := by decide +kernel
theorem dX6_digestClient_163 : decode cX6_digestClient 163 = .ok (.ldc2_w 273, 3) := by decide +kernel
theorem dX6_digestClient_166 : decode cX6_digestClient 166 = .ok (.lmul, 1) := by decide +kernel
theorem dX6_digestClient_167 : decode cX6_digestClient 167 = .ok (.aload_n 0, 1) := by decide +kernel
theorem dX6_digestClient_168 : decode cX6_digestClient 168 = .ok (.aload_n 3, 1) := by decide +kernel
theorem dX6_digestClient_169 : decode cX6_digestClient 169 = .ok (.bipush 30, 2) := by decide +kernel
theorem dX6_digestClient_171 : decode cX6_digestClient 171 = .ok (.invokevirtual 257, 3) := by decide +kernel
theorem dX6_digestClient_174 : decode cX6_digestClient 174 = .ok (.i2l, 1) := by decide +kernel
theorem dX6_digestClient_175 : decode cX6_digestClient 175 = .ok (.ladd, 1) := by decide +kernel
theorem dX6_digestClient_176 : decode cX6_digestClient 176 = .ok (.lstore 4, 2) := by decide +kernel
theorem dX6_digestClient_178 : decode cX6_digestClient 178 = .ok (.lload 4, 2) := by decide +kernel
theorem dX6_digestClient_180 : decode cX6_digestClient 180 = .ok (.ldc2_w 273, 3) := by decide +kernel
theorem dX6_digestClient_183 : decode cX6_digestClient 183 = .ok (.lmul, 1) := by decide +kernel
theorem dX6_digestClient_184 : decode cX6_digestClient 184 = .ok (.aload_n 0, 1) := by decide +kernel
theorem dX6_digestClient_185 : decode cX6_digestClient 185 = .ok (.aload_n 3, 1) := by decide +kernel
theorem dX6_digestClient_186 : decode cX6_digestClient 186 = .ok (.invokevirtual 263, 3) := by decide +kernel
theorem dX6_digestClient_189 : decode cX6_digestClient 189 = .ok (.i2l, 1) := by decide +kernel
theorem dX6_digestClient_190 : decode cX6_digestClient 190 = .ok (.ladd, 1) := by decide +kernel
theorem dX6_digestClient_191 : decode cX6_digestClient 191 = .ok (.lreturn, 1) := by decide +kernel
