theorem d_Mod_makeAnswer_325 : decode b_Mod_makeAnswer 325 = .ok (.iload_n 3, 1) := by decide +kernel
theorem d_Mod_makeAnswer_326 : decode b_Mod_makeAnswer 326 = .ok (.iload 4, 2) := by decide +kernel
theorem d_Mod_makeAnswer_328 : decode b_Mod_makeAnswer 328 = .ok (.iload 5, 2) := by decide +kernel
theorem d_Mod_makeAnswer_330 : decode b_Mod_makeAnswer 330 = .ok (.iload 6, 2) := by decide +kernel
theorem d_Mod_makeAnswer_332 : decode b_Mod_makeAnswer 332 = .ok (.iload 7, 2) := by decide +kernel
theorem d_Mod_makeAnswer_334 : decode b_Mod_makeAnswer 334 = .ok (.iload 8, 2) := by decide +kernel
theorem d_Mod_makeAnswer_336 : decode b_Mod_makeAnswer 336 = .ok (.invokevirtual 189, 3) := by decide +kernel
theorem d_Mod_makeAnswer_339 : decode b_Mod_makeAnswer 339 = .ok (.return_, 1) := by decide +kernel
theorem d_Mod_reject_0 : decode b_Mod_reject 0 = .ok (.aload_n 0, 1) := by decide +kernel
theorem d_Mod_reject_1 : decode b_Mod_reject 1 = .ok (.iconst 1, 1) := by decide +kernel
theorem d_Mod_reject_2 : decode b_Mod_reject 2 = .ok (.invokevirtual 159, 3) := by decide +kernel
theorem d_Mod_reject_5 : decode b_Mod_reject 5 = .ok (.aload_n 0, 1) := by decide +kernel
theorem d_Mod_reject_6 : decode b_Mod_reject 6 = .ok (.iconst 0, 1) := by decide +kernel
theorem d_Mod_reject_7 : decode b_Mod_reject 7 = .ok (.invokevirtual 159, 3) := by decide +kernel
theorem d_Mod_reject_10 : decode b_Mod_reject 10 = .ok (.aload_n 0, 1) := by decide +kernel
theorem d_Mod_reject_11 : decode b_Mod_reject 11 = .ok (.bipush 96, 2) := by decide +kernel
theorem d_Mod_reject_13 : decode b_Mod_reject 13 = .ok (.invokevirtual 159, 3) := by decide +kernel
theorem d_Mod_reject_16 : decode b_Mod_reject 16 = .ok (.aload_n 0, 1) := by decide +kernel
theorem d_Mod_reject_17 : decode b_Mod_reject 17 = .ok (.iload_n 1, 1) := by decide +kernel
theorem d_Mod_reject_18 : decode b_Mod_reject 18 = .ok (.invokevirtual 159, 3) := by decide +kernel
theorem d_Mod_reject_21 : decode b_Mod_reject 21 = .ok (.aload_n 0, 1) := by decide +kernel
theorem d_Mod_reject_22 : decode b_Mod_reject 22 = .ok (.iload_n 2, 1) := by decide +kernel
theorem d_Mod_reject_23 : decode b_Mod_reject 23 = .ok (.invokevirtual 159, 3) := by decide +kernel
theorem d_Mod_reject_26 : decode b_Mod_reject 26 = .ok (.return_, 1) := by decide +kernel
theorem d_Mod_add_0 : decode b_Mod_add 0 = .ok (.aload_n 0, 1) := by decide +kernel
theorem d_Mod_add_1 : decode b_Mod_add 1 = .ok (.getfield 19, 3) := by decide +kernel
theorem d_Mod_add_4 : decode b_Mod_add 4 = .ok (.aload_n 0, 1) := by decide +kernel
theorem d_Mod_add_5 : decode b_Mod_add 5 = .ok (.getfield 130, 3) := by decide +kernel
theorem d_Mod_add_8 : decode b_Mod_add 8 = .ok (.iload_n 1, 1) := by decide +kernel
theorem d_Mod_add_9 : decode b_Mod_add 9 = .ok (.iastore, 1) := by decide +kernel
theorem d_Mod_add_10 : decode b_Mod_add 10 = .ok (.aload_n 0, 1) := by decide +kernel
theorem d_Mod_add_11 : decode b_Mod_add 11 = .ok (.dup, 1) := by decide +kernel
theorem d_Mod_add_12 : decode b_Mod_add 12 = .ok (.getfield 130, 3) := by decide +kernel
theorem d_Mod_add_15 : decode b_Mod_add 15 = .ok (.iconst 1, 1) := by decide +kernel
theorem d_Mod_add_16 : decode b_Mod_add 16 = .ok (.iadd, 1) := by decide +kernel
theorem d_Mod_add_17 : decode b_Mod_add 17 = .ok (.putfield 130, 3) := by decide +kernel
theorem d_Mod_add_20 : decode b_Mod_add 20 = .ok (.return_, 1) := by decide +kernel
theorem d_Mod_expect_0 : decode b_Mod_expect 0 = .ok (.aload_n 0, 1) := by decide +kernel
theorem d_Mod_expect_1 : decode b_Mod_expect 1 = .ok (.invokevirtual 171, 3) := by decide +kernel
theorem d_Mod_expect_4 : decode b_Mod_expect 4 = .ok (.istore_n 2, 1) := by decide +kernel
theorem d_Mod_expect_5 : decode b_Mod_expect 5 = .ok (.aload_n 0, 1) := by decide +kernel
theorem d_Mod_expect_6 : decode b_Mod_expect 6 = .ok (.aload_n 0, 1) := by decide +kernel
theorem d_Mod_expect_7 : decode b_Mod_expect 7 = .ok (.getfield 165, 3) := by decide +kernel
theorem d_Mod_expect_10 : decode b_Mod_expect 10 = .ok (.ifCond .eq 12, 3) := by decide +kernel
theorem d_Mod_expect_13 : decode b_Mod_expect 13 = .ok (.iload_n 2, 1) := by decide +kernel
theorem d_Mod_expect_14 : decode b_Mod_expect 14 = .ok (.iload_n 1, 1) := by decide +kernel
theorem d_Mod_expect_15 : decode b_Mod_expect 15 = .ok (.if_icmp .ne 7, 3) := by decide +kernel
theorem d_Mod_expect_18 : decode b_Mod_expect 18 = .ok (.iconst 1, 1) := by decide +kernel
theorem d_Mod_expect_19 : decode b_Mod_expect 19 = .ok (.goto 4, 3) := by decide +kernel
theorem d_Mod_expect_22 : decode b_Mod_expect 22 = .ok (.iconst 0, 1) := by decide +kernel
theorem d_Mod_expect_23 : decode b_Mod_expect 23 = .ok (.putfield 165, 3) := by decide +kernel
theorem d_Mod_expect_26 : decode b_Mod_expect 26 = .ok (.return_, 1) := by decide +kernel
theorem d_Mod_take_0 : decode b_Mod_take 0 = .ok (.aload_n 0, 1) := by decide +kernel
theorem d_Mod_take_1 : decode b_Mod_take 1 = .ok (.aload_n 0, 1) := by decide +kernel
theorem d_Mod_take_2 : decode b_Mod_take 2 = .ok (.getfield 165, 3) := by decide +kernel
theorem d_Mod_take_5 : decode b_Mod_take 5 = .ok (.ifCond .eq 18, 3) := by decide +kernel
theorem d_Mod_take_8 : decode b_Mod_take 8 = .ok (.aload_n 0, 1) := by decide +kernel
theorem d_Mod_take_9 : decode b_Mod_take 9 = .ok (.getfield 168, 3) := by decide +kernel
theorem d_Mod_take_12 : decode b_Mod_take 12 = .ok (.aload_n 0, 1) := by decide +kernel
theorem d_Mod_take_13 : decode b_Mod_take 13 = .ok (.getfield 80, 3) := by decide +kernel
theorem d_Mod_take_16 : decode b_Mod_take 16 = .ok (.if_icmp .ge 7, 3) := by decide +kernel
theorem d_Mod_take_19 : decode b_Mod_take 19 = .ok (.iconst 1, 1) := by decide +kernel
theorem d_Mod_take_20 : decode b_Mod_take 20 = .ok (.goto 4, 3) := by decide +kernel
theorem d_Mod_take_23 : decode b_Mod_take 23 = .ok (.iconst 0, 1) := by decide +kernel
theorem d_Mod_take_24 : decode b_Mod_take 24 = .ok (.putfield 165, 3) := by decide +kernel
theorem d_Mod_take_27 : decode b_Mod_take 27 = .ok (.aload_n 0, 1) := by decide +kernel
theorem d_Mod_take_28 : decode b_Mod_take 28 = .ok (.dup, 1) := by decide +kernel
theorem d_Mod_take_29 : decode b_Mod_take 29 = .ok (.getfield 168, 3) := by decide +kernel
theorem d_Mod_take_32 : decode b_Mod_take 32 = .ok (.iconst 1, 1) := by decide +kernel
theorem d_Mod_take_33 : decode b_Mod_take 33 = .ok (.iadd, 1) := by decide +kernel
theorem d_Mod_take_34 : decode b_Mod_take 34 = .ok (.putfield 168, 3) := by decide +kernel
theorem d_Mod_take_37 : decode b_Mod_take 37 = .ok (.aload_n 0, 1) := by decide +kernel
theorem d_Mod_take_38 : decode b_Mod_take 38 = .ok (.getfield 165, 3) := by decide +kernel
theorem d_Mod_take_41 : decode b_Mod_take 41 = .ok (.ifCond .eq 17, 3) := by decide +kernel
theorem d_Mod_take_44 : decode b_Mod_take 44 = .ok (.aload_n 0, 1) := by decide +kernel
theorem d_Mod_take_45 : decode b_Mod_take 45 = .ok (.getfield 13, 3) := by decide +kernel
theorem d_Mod_take_48 : decode b_Mod_take 48 = .ok (.aload_n 0, 1) := by decide +kernel
theorem d_Mod_take_49 : decode b_Mod_take 49 = .ok (.getfield 168, 3) := by decide +kernel
theorem d_Mod_take_52 : decode b_Mod_take 52 = .ok (.iconst 1, 1) := by decide +kernel
theorem d_Mod_take_53 : decode b_Mod_take 53 = .ok (.isub, 1) := by decide +kernel
theorem d_Mod_take_54 : decode b_Mod_take 54 = .ok (.iaload, 1) := by decide +kernel
theorem d_Mod_take_55 : decode b_Mod_take 55 = .ok (.goto 4, 3) := by decide +kernel
theorem d_Mod_take_58 : decode b_Mod_take 58 = .ok (.iconst 0, 1) := by decide +kernel
theorem d_Mod_take_59 : decode b_Mod_take 59 = .ok (.ireturn, 1) := by decide +kernel
theorem d_Mod_takeInt_0 : decode b_Mod_takeInt 0 = .ok (.iconst 0, 1) := by decide +kernel
theorem d_Mod_takeInt_1 : decode b_Mod_takeInt 1 = .ok (.istore_n 1, 1) := by decide +kernel
theorem d_Mod_takeInt_2 : decode b_Mod_takeInt 2 = .ok (.iconst 0, 1) := by decide +kernel
theorem d_Mod_takeInt_3 : decode b_Mod_takeInt 3 = .ok (.istore_n 2, 1) := by decide +kernel
theorem d_Mod_takeInt_4 : decode b_Mod_takeInt 4 = .ok (.iload_n 2, 1) := by decide +kernel
theorem d_Mod_takeInt_5 : decode b_Mod_takeInt 5 = .ok (.iconst 4, 1) := by decide +kernel
theorem d_Mod_takeInt_6 : decode b_Mod_takeInt 6 = .ok (.if_icmp .ge 19, 3) := by decide +kernel
theorem d_Mod_takeInt_9 : decode b_Mod_takeInt 9 = .ok (.iload_n 1, 1) := by decide +kernel
theorem d_Mod_takeInt_10 : decode b_Mod_takeInt 10 = .ok (.bipush 8, 2) := by decide +kernel
theorem d_Mod_takeInt_12 : decode b_Mod_takeInt 12 = .ok (.ishl, 1) := by decide +kernel
theorem d_Mod_takeInt_13 : decode b_Mod_takeInt 13 = .ok (.aload_n 0, 1) := by decide +kernel
theorem d_Mod_takeInt_14 : decode b_Mod_takeInt 14 = .ok (.invokevirtual 171, 3) := by decide +kernel
theorem d_Mod_takeInt_17 : decode b_Mod_takeInt 17 = .ok (.ior, 1) := by decide +kernel
theorem d_Mod_takeInt_18 : decode b_Mod_takeInt 18 = .ok (.istore_n 1, 1) := by decide +kernel
theorem d_Mod_takeInt_19 : decode b_Mod_takeInt 19 = .ok (.iinc 2 1, 3) := by decide +kernel
theorem d_Mod_takeInt_22 : decode b_Mod_takeInt 22 = .ok (.goto (-18), 3) := by decide +kernel
theorem d_Mod_takeInt_25 : decode b_Mod_takeInt 25 = .ok (.iload_n 1, 1) := by decide +kernel
theorem d_Mod_takeInt_26 : decode b_Mod_takeInt 26 = .ok (.ireturn, 1) := by decide +kernel
theorem d_Mod_isNext_0 : decode b_Mod_isNext 0 = .ok (.aload_n 0, 1) := by decide +kernel
theorem d_Mod_isNext_1 : decode b_Mod_isNext 1 = .ok (.getfield 165, 3) := by decide +kernel
theorem d_Mod_isNext_4 : decode b_Mod_isNext 4 = .ok (.ifCond .eq 31, 3) := by decide +kernel
theorem d_Mod_isNext_7 : decode b_Mod_isNext 7 = .ok (.aload_n 0, 1) := by decide +kernel
theorem d_Mod_isNext_8 : decode b_Mod_isNext 8 = .ok (.getfield 168, 3) := by decide +kernel
theorem d_Mod_isNext_11 : decode b_Mod_isNext 11 = .ok (.aload_n 0, 1) := by decide +kernel
theorem d_Mod_isNext_12 : decode b_Mod_isNext 12 = .ok (.getfield 80, 3) := by decide +kernel
theorem d_Mod_isNext_15 : decode b_Mod_isNext 15 = .ok (.if_icmp .ge 20, 3) := by decide +kernel
theorem d_Mod_isNext_18 : decode b_Mod_isNext 18 = .ok (.aload_n 0, 1) := by decide +kernel
theorem d_Mod_isNext_19 : decode b_Mod_isNext 19 = .ok (.getfield 13, 3) := by decide +kernel
theorem d_Mod_isNext_22 : decode b_Mod_isNext 22 = .ok (.aload_n 0, 1) := by decide +kernel
theorem d_Mod_isNext_23 : decode b_Mod_isNext 23 = .ok (.getfield 168, 3) := by decide +kernel
theorem d_Mod_isNext_26 : decode b_Mod_isNext 26 = .ok (.iaload, 1) := by decide +kernel
theorem d_Mod_isNext_27 : decode b_Mod_isNext 27 = .ok (.iload_n 1, 1) := by decide +kernel
theorem d_Mod_isNext_28 : decode b_Mod_isNext 28 = .ok (.if_icmp .ne 7, 3) := by decide +kernel
theorem d_Mod_isNext_31 : decode b_Mod_isNext 31 = .ok (.iconst 1, 1) := by decide +kernel
theorem d_Mod_isNext_32 : decode b_Mod_isNext 32 = .ok (.goto 4, 3) := by decide +kernel
theorem d_Mod_isNext_35 : decode b_Mod_isNext 35 = .ok (.iconst 0, 1) := by decide +kernel
theorem d_Mod_isNext_36 : decode b_Mod_isNext 36 = .ok (.ireturn, 1) := by decide +kernel
theorem d_Mod_answerTo_0 : decode b_Mod_answerTo 0 = .ok (.iload_n 2, 1) := by decide +kernel
theorem d_Mod_answerTo_1 : decode b_Mod_answerTo 1 = .ok (.invokestatic 193, 3) := by decide +kernel
theorem d_Mod_answerTo_4 : decode b_Mod_answerTo 4 = .ok (.istore 8, 2) := by decide +kernel
theorem d_Mod_answerTo_6 : decode b_Mod_answerTo 6 = .ok (.iload 8, 2) := by decide +kernel
theorem d_Mod_answerTo_8 : decode b_Mod_answerTo 8 = .ok (.iload_n 3, 1) := by decide +kernel
theorem d_Mod_answerTo_9 : decode b_Mod_answerTo 9 = .ok (.iload 4, 2) := by decide +kernel
theorem d_Mod_answerTo_11 : decode b_Mod_answerTo 11 = .ok (.iload 5, 2) := by decide +kernel
theorem d_Mod_answerTo_13 : decode b_Mod_answerTo 13 = .ok (.iload 6, 2) := by decide +kernel
theorem d_Mod_answerTo_15 : decode b_Mod_answerTo 15 = .ok (.invokestatic 196, 3) := by decide +kernel
theorem d_Mod_answerTo_18 : decode b_Mod_answerTo 18 = .ok (.istore 9, 2) := by decide +kernel
theorem d_Mod_answerTo_20 : decode b_Mod_answerTo 20 = .ok (.iload 9, 2) := by decide +kernel
theorem d_Mod_answerTo_22 : decode b_Mod_answerTo 22 = .ok (.ifCond .le 75, 3) := by decide +kernel
theorem d_Mod_answerTo_25 : decode b_Mod_answerTo 25 = .ok (.aload_n 0, 1) := by decide +kernel
theorem d_Mod_answerTo_26 : decode b_Mod_answerTo 26 = .ok (.iconst 1, 1) := by decide +kernel
theorem d_Mod_answerTo_27 : decode b_Mod_answerTo 27 = .ok (.invokevirtual 159, 3) := by decide +kernel
theorem d_Mod_answerTo_30 : decode b_Mod_answerTo 30 = .ok (.aload_n 0, 1) := by decide +kernel
theorem d_Mod_answerTo_31 : decode b_Mod_answerTo 31 = .ok (.iconst 0, 1) := by decide +kernel
theorem d_Mod_answerTo_32 : decode b_Mod_answerTo 32 = .ok (.invokevirtual 159, 3) := by decide +kernel
theorem d_Mod_answerTo_35 : decode b_Mod_answerTo 35 = .ok (.aload_n 0, 1) := by decide +kernel
theorem d_Mod_answerTo_36 : decode b_Mod_answerTo 36 = .ok (.bipush 80, 2) := by decide +kernel
theorem d_Mod_answerTo_38 : decode b_Mod_answerTo 38 = .ok (.invokevirtual 159, 3) := by decide +kernel
theorem d_Mod_answerTo_41 : decode b_Mod_answerTo 41 = .ok (.aload_n 0, 1) := by decide +kernel
theorem d_Mod_answerTo_42 : decode b_Mod_answerTo 42 = .ok (.iload_n 1, 1) := by decide +kernel
theorem d_Mod_answerTo_43 : decode b_Mod_answerTo 43 = .ok (.invokevirtual 159, 3) := by decide +kernel
theorem d_Mod_answerTo_46 : decode b_Mod_answerTo 46 = .ok (.aload_n 0, 1) := by decide +kernel
theorem d_Mod_answerTo_47 : decode b_Mod_answerTo 47 = .ok (.iload 5, 2) := by decide +kernel
theorem d_Mod_answerTo_49 : decode b_Mod_answerTo 49 = .ok (.ifCond .ge 8, 3) := by decide +kernel
theorem d_Mod_answerTo_52 : decode b_Mod_answerTo 52 = .ok (.bipush 12, 2) := by decide +kernel
theorem d_Mod_answerTo_54 : decode b_Mod_answerTo 54 = .ok (.goto 5, 3) := by decide +kernel
theorem d_Mod_answerTo_57 : decode b_Mod_answerTo 57 = .ok (.bipush 15, 2) := by decide +kernel
theorem d_Mod_answerTo_59 : decode b_Mod_answerTo 59 = .ok (.invokevirtual 159, 3) := by decide +kernel
theorem d_Mod_answerTo_62 : decode b_Mod_answerTo 62 = .ok (.aload_n 0, 1) := by decide +kernel
theorem d_Mod_answerTo_63 : decode b_Mod_answerTo 63 = .ok (.sipush 145, 3) := by decide +kernel
theorem d_Mod_answerTo_66 : decode b_Mod_answerTo 66 = .ok (.invokevirtual 159, 3) := by decide +kernel
theorem d_Mod_answerTo_69 : decode b_Mod_answerTo 69 = .ok (.aload_n 0, 1) := by decide +kernel
theorem d_Mod_answerTo_70 : decode b_Mod_answerTo 70 = .ok (.iload 9, 2) := by decide +kernel
theorem d_Mod_answerTo_72 : decode b_Mod_answerTo 72 = .ok (.bipush 100, 2) := by decide +kernel
theorem d_Mod_answerTo_74 : decode b_Mod_answerTo 74 = .ok (.idiv, 1) := by decide +kernel
theorem d_Mod_answerTo_75 : decode b_Mod_answerTo 75 = .ok (.invokevirtual 159, 3) := by decide +kernel
theorem d_Mod_answerTo_78 : decode b_Mod_answerTo 78 = .ok (.aload_n 0, 1) := by decide +kernel
theorem d_Mod_answerTo_79 : decode b_Mod_answerTo 79 = .ok (.sipush 145, 3) := by decide +kernel
theorem d_Mod_answerTo_82 : decode b_Mod_answerTo 82 = .ok (.invokevirtual 159, 3) := by decide +kernel
theorem d_Mod_answerTo_85 : decode b_Mod_answerTo 85 = .ok (.aload_n 0, 1) := by decide +kernel
theorem d_Mod_answerTo_86 : decode b_Mod_answerTo 86 = .ok (.iload 9, 2) := by decide +kernel
theorem d_Mod_answerTo_88 : decode b_Mod_answerTo 88 = .ok (.bipush 100, 2) := by decide +kernel
theorem d_Mod_answerTo_90 : decode b_Mod_answerTo 90 = .ok (.irem, 1) := by decide +kernel
theorem d_Mod_answerTo_91 : decode b_Mod_answerTo 91 = .ok (.invokevirtual 159, 3) := by decide +kernel
theorem d_Mod_answerTo_94 : decode b_Mod_answerTo 94 = .ok (.goto 95, 3) := by decide +kernel
theorem d_Mod_answerTo_97 : decode b_Mod_answerTo 97 = .ok (.iload 5, 2) := by decide +kernel
theorem d_Mod_answerTo_99 : decode b_Mod_answerTo 99 = .ok (.ifCond .lt 79, 3) := by decide +kernel
theorem d_Mod_answerTo_102 : decode b_Mod_answerTo 102 = .ok (.bipush 17, 2) := by decide +kernel
theorem d_Mod_answerTo_104 : decode b_Mod_answerTo 104 = .ok (.iload 8, 2) := by decide +kernel
theorem d_Mod_answerTo_106 : decode b_Mod_answerTo 106 = .ok (.imul, 1) := by decide +kernel
theorem d_Mod_answerTo_107 : decode b_Mod_answerTo 107 = .ok (.iload_n 3, 1) := by decide +kernel
theorem d_Mod_answerTo_108 : decode b_Mod_answerTo 108 = .ok (.bipush 85, 2) := by decide +kernel
theorem d_Mod_answerTo_110 : decode b_Mod_answerTo 110 = .ok (.if_icmp .ne 8, 3) := by decide +kernel
theorem d_Mod_answerTo_113 : decode b_Mod_answerTo 113 = .ok (.iload 7, 2) := by decide +kernel
theorem d_Mod_answerTo_115 : decode b_Mod_answerTo 115 = .ok (.goto 4, 3) := by decide +kernel
theorem d_Mod_answerTo_118 : decode b_Mod_answerTo 118 = .ok (.iconst 0, 1) := by decide +kernel
theorem d_Mod_answerTo_119 : decode b_Mod_answerTo 119 = .ok (.iadd, 1) := by decide +kernel
theorem d_Mod_answerTo_120 : decode b_Mod_answerTo 120 = .ok (.istore 10, 2) := by decide +kernel
theorem d_Mod_answerTo_122 : decode b_Mod_answerTo 122 = .ok (.aload_n 0, 1) := by decide +kernel
theorem d_Mod_answerTo_123 : decode b_Mod_answerTo 123 = .ok (.getfield 28, 3) := by decide +kernel
theorem d_Mod_answerTo_126 : decode b_Mod_answerTo 126 = .ok (.iload 10, 2) := by decide +kernel
theorem d_Mod_answerTo_128 : decode b_Mod_answerTo 128 = .ok (.iload 6, 2) := by decide +kernel
theorem d_Mod_answerTo_130 : decode b_Mod_answerTo 130 = .ok (.iastore, 1) := by decide +kernel
theorem d_Mod_answerTo_131 : decode b_Mod_answerTo 131 = .ok (.aload_n 0, 1) := by decide +kernel
theorem d_Mod_answerTo_132 : decode b_Mod_answerTo 132 = .ok (.getfield 31, 3) := by decide +kernel
theorem d_Mod_answerTo_135 : decode b_Mod_answerTo 135 = .ok (.iload 10, 2) := by decide +kernel
theorem d_Mod_answerTo_137 : decode b_Mod_answerTo 137 = .ok (.iload 5, 2) := by decide +kernel
theorem d_Mod_answerTo_139 : decode b_Mod_answerTo 139 = .ok (.ifCond .le 7, 3) := by decide +kernel
theorem d_Mod_answerTo_142 : decode b_Mod_answerTo 142 = .ok (.iconst 1, 1) := by decide +kernel
theorem d_Mod_answerTo_143 : decode b_Mod_answerTo 143 = .ok (.goto 4, 3) := by decide +kernel
theorem d_Mod_answerTo_146 : decode b_Mod_answerTo 146 = .ok (.iconst 0, 1) := by decide +kernel
theorem d_Mod_answerTo_147 : decode b_Mod_answerTo 147 = .ok (.bastore, 1) := by decide +kernel
theorem d_Mod_answerTo_148 : decode b_Mod_answerTo 148 = .ok (.aload_n 0, 1) := by decide +kernel
theorem d_Mod_answerTo_149 : decode b_Mod_answerTo 149 = .ok (.iconst 1, 1) := by decide +kernel
theorem d_Mod_answerTo_150 : decode b_Mod_answerTo 150 = .ok (.invokevirtual 159, 3) := by decide +kernel
theorem d_Mod_answerTo_153 : decode b_Mod_answerTo 153 = .ok (.aload_n 0, 1) := by decide +kernel
theorem d_Mod_answerTo_154 : decode b_Mod_answerTo 154 = .ok (.iconst 0, 1) := by decide +kernel
theorem d_Mod_answerTo_155 : decode b_Mod_answerTo 155 = .ok (.invokevirtual 159, 3) := by decide +kernel
theorem d_Mod_answerTo_158 : decode b_Mod_answerTo 158 = .ok (.aload_n 0, 1) := by decide +kernel
theorem d_Mod_answerTo_159 : decode b_Mod_answerTo 159 = .ok (.bipush 32, 2) := by decide +kernel
theorem d_Mod_answerTo_161 : decode b_Mod_answerTo 161 = .ok (.invokevirtual 159, 3) := by decide +kernel
theorem d_Mod_answerTo_164 : decode b_Mod_answerTo 164 = .ok (.aload_n 0, 1) := by decide +kernel
theorem d_Mod_answerTo_165 : decode b_Mod_answerTo 165 = .ok (.iload_n 1, 1) := by decide +kernel
theorem d_Mod_answerTo_166 : decode b_Mod_answerTo 166 = .ok (.invokevirtual 159, 3) := by decide +kernel
theorem d_Mod_answerTo_169 : decode b_Mod_answerTo 169 = .ok (.aload_n 0, 1) := by decide +kernel
theorem d_Mod_answerTo_170 : decode b_Mod_answerTo 170 = .ok (.bipush 15, 2) := by decide +kernel
theorem d_Mod_answerTo_172 : decode b_Mod_answerTo 172 = .ok (.invokevirtual 159, 3) := by decide +kernel
theorem d_Mod_answerTo_175 : decode b_Mod_answerTo 175 = .ok (.goto 14, 3) := by decide +kernel
theorem d_Mod_answerTo_178 : decode b_Mod_answerTo 178 = .ok (.aload_n 0, 1) := by decide +kernel
theorem d_Mod_answerTo_179 : decode b_Mod_answerTo 179 = .ok (.iload_n 1, 1) := by decide +kernel
theorem d_Mod_answerTo_180 : decode b_Mod_answerTo 180 = .ok (.iload 8, 2) := by decide +kernel
theorem d_Mod_answerTo_182 : decode b_Mod_answerTo 182 = .ok (.iload_n 2, 1) := by decide +kernel
theorem d_Mod_answerTo_183 : decode b_Mod_answerTo 183 = .ok (.iload_n 3, 1) := by decide +kernel
theorem d_Mod_answerTo_184 : decode b_Mod_answerTo 184 = .ok (.iload 4, 2) := by decide +kernel
theorem d_Mod_answerTo_186 : decode b_Mod_answerTo 186 = .ok (.invokevirtual 200, 3) := by decide +kernel
theorem d_Mod_answerTo_189 : decode b_Mod_answerTo 189 = .ok (.return_, 1) := by decide +kernel
theorem d_Mod_thingOf_0 : decode b_Mod_thingOf 0 = .ok (.iload_n 0, 1) := by decide +kernel
theorem d_Mod_thingOf_1 : decode b_Mod_thingOf 1 = .ok (.bipush 22, 2) := by decide +kernel
theorem d_Mod_thingOf_3 : decode b_Mod_thingOf 3 = .ok (.iushr, 1) := by decide +kernel
theorem d_Mod_thingOf_4 : decode b_Mod_thingOf 4 = .ok (.istore_n 1, 1) := by decide +kernel
theorem d_Mod_thingOf_5 : decode b_Mod_thingOf 5 = .ok (.iload_n 0, 1) := by decide +kernel
theorem d_Mod_thingOf_6 : decode b_Mod_thingOf 6 = .ok (.ldc 158, 2) := by decide +kernel
theorem d_Mod_thingOf_8 : decode b_Mod_thingOf 8 = .ok (.iand, 1) := by decide +kernel
theorem d_Mod_thingOf_9 : decode b_Mod_thingOf 9 = .ok (.istore_n 2, 1) := by decide +kernel
theorem d_Mod_thingOf_10 : decode b_Mod_thingOf 10 = .ok (.iload_n 2, 1) := by decide +kernel
theorem d_Mod_thingOf_11 : decode b_Mod_thingOf 11 = .ok (.iconst 1, 1) := by decide +kernel
theorem d_Mod_thingOf_12 : decode b_Mod_thingOf 12 = .ok (.if_icmp .le 7, 3) := by decide +kernel
theorem d_Mod_thingOf_15 : decode b_Mod_thingOf 15 = .ok (.iconst (-1), 1) := by decide +kernel
theorem d_Mod_thingOf_16 : decode b_Mod_thingOf 16 = .ok (.goto 24, 3) := by decide +kernel
theorem d_Mod_thingOf_19 : decode b_Mod_thingOf 19 = .ok (.iload_n 1, 1) := by decide +kernel
theorem d_Mod_thingOf_20 : decode b_Mod_thingOf 20 = .ok (.iconst 2, 1) := by decide +kernel
theorem d_Mod_thingOf_21 : decode b_Mod_thingOf 21 = .ok (.if_icmp .ne 7, 3) := by decide +kernel
theorem d_Mod_thingOf_24 : decode b_Mod_thingOf 24 = .ok (.iload_n 2, 1) := by decide +kernel
theorem d_Mod_thingOf_25 : decode b_Mod_thingOf 25 = .ok (.goto 15, 3) := by decide +kernel
theorem d_Mod_thingOf_28 : decode b_Mod_thingOf 28 = .ok (.iload_n 1, 1) := by decide +kernel
theorem d_Mod_thingOf_29 : decode b_Mod_thingOf 29 = .ok (.iconst 4, 1) := by decide +kernel
theorem d_Mod_thingOf_30 : decode b_Mod_thingOf 30 = .ok (.if_icmp .ne 9, 3) := by decide +kernel
theorem d_Mod_thingOf_33 : decode b_Mod_thingOf 33 = .ok (.iconst 2, 1) := by decide +kernel
theorem d_Mod_thingOf_34 : decode b_Mod_thingOf 34 = .ok (.iload_n 2, 1) := by decide +kernel
theorem d_Mod_thingOf_35 : decode b_Mod_thingOf 35 = .ok (.iadd, 1) := by decide +kernel
theorem d_Mod_thingOf_36 : decode b_Mod_thingOf 36 = .ok (.goto 4, 3) := by decide +kernel
theorem d_Mod_thingOf_39 : decode b_Mod_thingOf 39 = .ok (.iconst (-1), 1) := by decide +kernel
theorem d_Mod_thingOf_40 : decode b_Mod_thingOf 40 = .ok (.ireturn, 1) := by decide +kernel
theorem d_Mod_wrong_0 : decode b_Mod_wrong 0 = .ok (.iload_n 0, 1) := by decide +kernel
theorem d_Mod_wrong_1 : decode b_Mod_wrong 1 = .ok (.ifCond .ge 7, 3) := by decide +kernel
theorem d_Mod_wrong_4 : decode b_Mod_wrong 4 = .ok (.sipush 131, 3) := by decide +kernel
theorem d_Mod_wrong_7 : decode b_Mod_wrong 7 = .ok (.ireturn, 1) := by decide +kernel
theorem d_Mod_wrong_8 : decode b_Mod_wrong 8 = .ok (.iload_n 1, 1) := by decide +kernel
theorem d_Mod_wrong_9 : decode b_Mod_wrong 9 = .ok (.bipush 75, 2) := by decide +kernel
theorem d_Mod_wrong_11 : decode b_Mod_wrong 11 = .ok (.if_icmp .eq 25, 3) := by decide +kernel
theorem d_Mod_wrong_14 : decode b_Mod_wrong 14 = .ok (.iload_n 1, 1) := by decide +kernel
theorem d_Mod_wrong_15 : decode b_Mod_wrong 15 = .ok (.bipush 85, 2) := by decide +kernel
theorem d_Mod_wrong_17 : decode b_Mod_wrong 17 = .ok (.if_icmp .eq 19, 3) := by decide +kernel
theorem d_Mod_wrong_20 : decode b_Mod_wrong 20 = .ok (.iload_n 1, 1) := by decide +kernel
theorem d_Mod_wrong_21 : decode b_Mod_wrong 21 = .ok (.bipush 87, 2) := by decide +kernel
theorem d_Mod_wrong_23 : decode b_Mod_wrong 23 = .ok (.if_icmp .eq 13, 3) := by decide +kernel
theorem d_Mod_wrong_26 : decode b_Mod_wrong 26 = .ok (.iload_n 1, 1) := by decide +kernel
theorem d_Mod_wrong_27 : decode b_Mod_wrong 27 = .ok (.bipush 104, 2) := by decide +kernel
theorem d_Mod_wrong_29 : decode b_Mod_wrong 29 = .ok (.if_icmp .eq 7, 3) := by decide +kernel
theorem d_Mod_wrong_32 : decode b_Mod_wrong 32 = .ok (.sipush 232, 3) := by decide +kernel
theorem d_Mod_wrong_35 : decode b_Mod_wrong 35 = .ok (.ireturn, 1) := by decide +kernel
theorem d_Mod_wrong_36 : decode b_Mod_wrong 36 = .ok (.iload_n 2, 1) := by decide +kernel
theorem d_Mod_wrong_37 : decode b_Mod_wrong 37 = .ok (.ifCond .lt 13, 3) := by decide +kernel
theorem d_Mod_wrong_40 : decode b_Mod_wrong 40 = .ok (.iload_n 1, 1) := by decide +kernel
theorem d_Mod_wrong_41 : decode b_Mod_wrong 41 = .ok (.bipush 87, 2) := by decide +kernel
theorem d_Mod_wrong_43 : decode b_Mod_wrong 43 = .ok (.if_icmp .eq 7, 3) := by decide +kernel
theorem d_Mod_wrong_46 : decode b_Mod_wrong 46 = .ok (.sipush 250, 3) := by decide +kernel
theorem d_Mod_wrong_49 : decode b_Mod_wrong 49 = .ok (.ireturn, 1) := by decide +kernel
theorem d_Mod_wrong_50 : decode b_Mod_wrong 50 = .ok (.iload_n 1, 1) := by decide +kernel
theorem d_Mod_wrong_51 : decode b_Mod_wrong 51 = .ok (.bipush 87, 2) := by decide +kernel
theorem d_Mod_wrong_53 : decode b_Mod_wrong 53 = .ok (.if_icmp .ne 17, 3) := by decide +kernel
theorem d_Mod_wrong_56 : decode b_Mod_wrong 56 = .ok (.iload_n 2, 1) := by decide +kernel
theorem d_Mod_wrong_57 : decode b_Mod_wrong 57 = .ok (.ifCond .lt 9, 3) := by decide +kernel
theorem d_Mod_wrong_60 : decode b_Mod_wrong 60 = .ok (.iload_n 2, 1) := by decide +kernel
theorem d_Mod_wrong_61 : decode b_Mod_wrong 61 = .ok (.bipush 16, 2) := by decide +kernel
theorem d_Mod_wrong_63 : decode b_Mod_wrong 63 = .ok (.if_icmp .le 7, 3) := by decide +kernel
theorem d_Mod_wrong_66 : decode b_Mod_wrong 66 = .ok (.sipush 242, 3) := by decide +kernel
theorem d_Mod_wrong_69 : decode b_Mod_wrong 69 = .ok (.ireturn, 1) := by decide +kernel
theorem d_Mod_wrong_70 : decode b_Mod_wrong 70 = .ok (.iload_n 3, 1) := by decide +kernel
theorem d_Mod_wrong_71 : decode b_Mod_wrong 71 = .ok (.ifCond .ge 5, 3) := by decide +kernel
theorem d_Mod_wrong_74 : decode b_Mod_wrong 74 = .ok (.iconst 0, 1) := by decide +kernel
theorem d_Mod_wrong_75 : decode b_Mod_wrong 75 = .ok (.ireturn, 1) := by decide +kernel
theorem d_Mod_wrong_76 : decode b_Mod_wrong 76 = .ok (.iload_n 1, 1) := by decide +kernel
theorem d_Mod_wrong_77 : decode b_Mod_wrong 77 = .ok (.bipush 75, 2) := by decide +kernel
theorem d_Mod_wrong_79 : decode b_Mod_wrong 79 = .ok (.if_icmp .eq 9, 3) := by decide +kernel
theorem d_Mod_wrong_82 : decode b_Mod_wrong 82 = .ok (.iload_n 1, 1) := by decide +kernel
theorem d_Mod_wrong_83 : decode b_Mod_wrong 83 = .ok (.bipush 87, 2) := by decide +kernel
theorem d_Mod_wrong_85 : decode b_Mod_wrong 85 = .ok (.if_icmp .ne 7, 3) := by decide +kernel
theorem d_Mod_wrong_88 : decode b_Mod_wrong 88 = .ok (.sipush 240, 3) := by decide +kernel
theorem d_Mod_wrong_91 : decode b_Mod_wrong 91 = .ok (.ireturn, 1) := by decide +kernel
theorem d_Mod_wrong_92 : decode b_Mod_wrong 92 = .ok (.iload_n 3, 1) := by decide +kernel
theorem d_Mod_wrong_93 : decode b_Mod_wrong 93 = .ok (.iload_n 0, 1) := by decide +kernel
theorem d_Mod_wrong_94 : decode b_Mod_wrong 94 = .ok (.iconst 2, 1) := by decide +kernel
theorem d_Mod_wrong_95 : decode b_Mod_wrong 95 = .ok (.if_icmp .ge 8, 3) := by decide +kernel
theorem d_Mod_wrong_98 : decode b_Mod_wrong 98 = .ok (.bipush 68, 2) := by decide +kernel
theorem d_Mod_wrong_100 : decode b_Mod_wrong 100 = .ok (.goto 6, 3) := by decide +kernel
theorem d_Mod_wrong_103 : decode b_Mod_wrong 103 = .ok (.sipush 145, 3) := by decide +kernel
theorem d_Mod_wrong_106 : decode b_Mod_wrong 106 = .ok (.if_icmp .eq 13, 3) := by decide +kernel
theorem d_Mod_wrong_109 : decode b_Mod_wrong 109 = .ok (.iload_n 3, 1) := by decide +kernel
theorem d_Mod_wrong_110 : decode b_Mod_wrong 110 = .ok (.ifCond .ne 13, 3) := by decide +kernel
theorem d_Mod_wrong_113 : decode b_Mod_wrong 113 = .ok (.iload_n 1, 1) := by decide +kernel
theorem d_Mod_wrong_114 : decode b_Mod_wrong 114 = .ok (.bipush 85, 2) := by decide +kernel
theorem d_Mod_wrong_116 : decode b_Mod_wrong 116 = .ok (.if_icmp .ne 7, 3) := by decide +kernel
theorem d_Mod_wrong_119 : decode b_Mod_wrong 119 = .ok (.iconst 1, 1) := by decide +kernel
theorem d_Mod_wrong_120 : decode b_Mod_wrong 120 = .ok (.goto 4, 3) := by decide +kernel
theorem d_Mod_wrong_123 : decode b_Mod_wrong 123 = .ok (.iconst 0, 1) := by decide +kernel
theorem d_Mod_wrong_124 : decode b_Mod_wrong 124 = .ok (.istore 5, 2) := by decide +kernel
theorem d_Mod_wrong_126 : decode b_Mod_wrong 126 = .ok (.iload 5, 2) := by decide +kernel
theorem d_Mod_wrong_128 : decode b_Mod_wrong 128 = .ok (.ifCond .ne 7, 3) := by decide +kernel
theorem d_Mod_wrong_131 : decode b_Mod_wrong 131 = .ok (.sipush 209, 3) := by decide +kernel
theorem d_Mod_wrong_134 : decode b_Mod_wrong 134 = .ok (.ireturn, 1) := by decide +kernel
theorem d_Mod_wrong_135 : decode b_Mod_wrong 135 = .ok (.iload_n 3, 1) := by decide +kernel
theorem d_Mod_wrong_136 : decode b_Mod_wrong 136 = .ok (.sipush 145, 3) := by decide +kernel
theorem d_Mod_wrong_139 : decode b_Mod_wrong 139 = .ok (.if_icmp .ne 15, 3) := by decide +kernel
theorem d_Mod_wrong_142 : decode b_Mod_wrong 142 = .ok (.iload 4, 2) := by decide +kernel
theorem d_Mod_wrong_144 : decode b_Mod_wrong 144 = .ok (.iconst 1, 1) := by decide +kernel
theorem d_Mod_wrong_145 : decode b_Mod_wrong 145 = .ok (.if_icmp .le 9, 3) := by decide +kernel
theorem d_Mod_wrong_148 : decode b_Mod_wrong 148 = .ok (.sipush 237, 3) := by decide +kernel
theorem d_Mod_wrong_151 : decode b_Mod_wrong 151 = .ok (.goto 4, 3) := by decide +kernel
theorem d_Mod_wrong_154 : decode b_Mod_wrong 154 = .ok (.iconst 0, 1) := by decide +kernel
theorem d_Mod_wrong_155 : decode b_Mod_wrong 155 = .ok (.ireturn, 1) := by decide +kernel
theorem d_Mod_tell_0 : decode b_Mod_tell 0 = .ok (.aload_n 0, 1) := by decide +kernel
theorem d_Mod_tell_1 : decode b_Mod_tell 1 = .ok (.iconst 1, 1) := by decide +kernel
theorem d_Mod_tell_2 : decode b_Mod_tell 2 = .ok (.invokevirtual 159, 3) := by decide +kernel
theorem d_Mod_tell_5 : decode b_Mod_tell 5 = .ok (.aload_n 0, 1) := by decide +kernel
theorem d_Mod_tell_6 : decode b_Mod_tell 6 = .ok (.iconst 0, 1) := by decide +kernel
theorem d_Mod_tell_7 : decode b_Mod_tell 7 = .ok (.invokevirtual 159, 3) := by decide +kernel
theorem d_Mod_tell_10 : decode b_Mod_tell 10 = .ok (.aload_n 0, 1) := by decide +kernel
theorem d_Mod_tell_11 : decode b_Mod_tell 11 = .ok (.bipush 48, 2) := by decide +kernel
theorem d_Mod_tell_13 : decode b_Mod_tell 13 = .ok (.invokevirtual 159, 3) := by decide +kernel
theorem d_Mod_tell_16 : decode b_Mod_tell 16 = .ok (.aload_n 0, 1) := by decide +kernel
theorem d_Mod_tell_17 : decode b_Mod_tell 17 = .ok (.iload_n 1, 1) := by decide +kernel
theorem d_Mod_tell_18 : decode b_Mod_tell 18 = .ok (.invokevirtual 159, 3) := by decide +kernel
theorem d_Mod_tell_21 : decode b_Mod_tell 21 = .ok (.aload_n 0, 1) := by decide +kernel
theorem d_Mod_tell_22 : decode b_Mod_tell 22 = .ok (.bipush 12, 2) := by decide +kernel
theorem d_Mod_tell_24 : decode b_Mod_tell 24 = .ok (.invokevirtual 159, 3) := by decide +kernel
theorem d_Mod_tell_27 : decode b_Mod_tell 27 = .ok (.aload_n 0, 1) := by decide +kernel
theorem d_Mod_tell_28 : decode b_Mod_tell 28 = .ok (.bipush 12, 2) := by decide +kernel
theorem d_Mod_tell_30 : decode b_Mod_tell 30 = .ok (.invokevirtual 159, 3) := by decide +kernel
theorem d_Mod_tell_33 : decode b_Mod_tell 33 = .ok (.aload_n 0, 1) := by decide +kernel
theorem d_Mod_tell_34 : decode b_Mod_tell 34 = .ok (.iload_n 3, 1) := by decide +kernel
theorem d_Mod_tell_35 : decode b_Mod_tell 35 = .ok (.invokevirtual 162, 3) := by decide +kernel
theorem d_Mod_tell_38 : decode b_Mod_tell 38 = .ok (.aload_n 0, 1) := by decide +kernel
theorem d_Mod_tell_39 : decode b_Mod_tell 39 = .ok (.bipush 25, 2) := by decide +kernel
theorem d_Mod_tell_41 : decode b_Mod_tell 41 = .ok (.invokevirtual 159, 3) := by decide +kernel
theorem d_Mod_tell_44 : decode b_Mod_tell 44 = .ok (.aload_n 0, 1) := by decide +kernel
theorem d_Mod_tell_45 : decode b_Mod_tell 45 = .ok (.iload 4, 2) := by decide +kernel
theorem d_Mod_tell_47 : decode b_Mod_tell 47 = .ok (.invokevirtual 159, 3) := by decide +kernel
theorem d_Mod_tell_50 : decode b_Mod_tell 50 = .ok (.iload 5, 2) := by decide +kernel
theorem d_Mod_tell_52 : decode b_Mod_tell 52 = .ok (.ifCond .lt 15, 3) := by decide +kernel
theorem d_Mod_tell_55 : decode b_Mod_tell 55 = .ok (.aload_n 0, 1) := by decide +kernel
theorem d_Mod_tell_56 : decode b_Mod_tell 56 = .ok (.bipush 41, 2) := by decide +kernel
theorem d_Mod_tell_58 : decode b_Mod_tell 58 = .ok (.invokevirtual 159, 3) := by decide +kernel
theorem d_Mod_tell_61 : decode b_Mod_tell 61 = .ok (.aload_n 0, 1) := by decide +kernel
theorem d_Mod_tell_62 : decode b_Mod_tell 62 = .ok (.iload 5, 2) := by decide +kernel
theorem d_Mod_tell_64 : decode b_Mod_tell 64 = .ok (.invokevirtual 159, 3) := by decide +kernel
theorem d_Mod_tell_67 : decode b_Mod_tell 67 = .ok (.aload_n 0, 1) := by decide +kernel
theorem d_Mod_tell_68 : decode b_Mod_tell 68 = .ok (.bipush 62, 2) := by decide +kernel
theorem d_Mod_tell_70 : decode b_Mod_tell 70 = .ok (.invokevirtual 159, 3) := by decide +kernel
theorem d_Mod_tell_73 : decode b_Mod_tell 73 = .ok (.iload 4, 2) := by decide +kernel
theorem d_Mod_tell_75 : decode b_Mod_tell 75 = .ok (.bipush 75, 2) := by decide +kernel
theorem d_Mod_tell_77 : decode b_Mod_tell 77 = .ok (.if_icmp .ne 18, 3) := by decide +kernel
theorem d_Mod_tell_80 : decode b_Mod_tell 80 = .ok (.aload_n 0, 1) := by decide +kernel
theorem d_Mod_tell_81 : decode b_Mod_tell 81 = .ok (.sipush 196, 3) := by decide +kernel
theorem d_Mod_tell_84 : decode b_Mod_tell 84 = .ok (.invokevirtual 159, 3) := by decide +kernel
theorem d_Mod_tell_87 : decode b_Mod_tell 87 = .ok (.aload_n 0, 1) := by decide +kernel
theorem d_Mod_tell_88 : decode b_Mod_tell 88 = .ok (.iload_n 3, 1) := by decide +kernel
theorem d_Mod_tell_89 : decode b_Mod_tell 89 = .ok (.invokevirtual 162, 3) := by decide +kernel
theorem d_Mod_tell_92 : decode b_Mod_tell 92 = .ok (.goto 102, 3) := by decide +kernel
theorem d_Mod_tell_95 : decode b_Mod_tell 95 = .ok (.iload 5, 2) := by decide +kernel
theorem d_Mod_tell_97 : decode b_Mod_tell 97 = .ok (.ifCond .ne 18, 3) := by decide +kernel
theorem d_Mod_tell_100 : decode b_Mod_tell 100 = .ok (.aload_n 0, 1) := by decide +kernel
theorem d_Mod_tell_101 : decode b_Mod_tell 101 = .ok (.bipush 33, 2) := by decide +kernel
theorem d_Mod_tell_103 : decode b_Mod_tell 103 = .ok (.invokevirtual 159, 3) := by decide +kernel
theorem d_Mod_tell_106 : decode b_Mod_tell 106 = .ok (.aload_n 0, 1) := by decide +kernel
theorem d_Mod_tell_107 : decode b_Mod_tell 107 = .ok (.bipush 16, 2) := by decide +kernel
theorem d_Mod_tell_109 : decode b_Mod_tell 109 = .ok (.invokevirtual 159, 3) := by decide +kernel
theorem d_Mod_tell_112 : decode b_Mod_tell 112 = .ok (.goto 82, 3) := by decide +kernel
theorem d_Mod_tell_115 : decode b_Mod_tell 115 = .ok (.iload 5, 2) := by decide +kernel
theorem d_Mod_tell_117 : decode b_Mod_tell 117 = .ok (.ifCond .le 26, 3) := by decide +kernel
theorem d_Mod_tell_120 : decode b_Mod_tell 120 = .ok (.aload_n 0, 1) := by decide +kernel
theorem d_Mod_tell_121 : decode b_Mod_tell 121 = .ok (.getfield 31, 3) := by decide +kernel
theorem d_Mod_tell_124 : decode b_Mod_tell 124 = .ok (.bipush 17, 2) := by decide +kernel
theorem d_Mod_tell_126 : decode b_Mod_tell 126 = .ok (.iload_n 2, 1) := by decide +kernel
theorem d_Mod_tell_127 : decode b_Mod_tell 127 = .ok (.imul, 1) := by decide +kernel
theorem d_Mod_tell_128 : decode b_Mod_tell 128 = .ok (.iload 5, 2) := by decide +kernel
theorem d_Mod_tell_130 : decode b_Mod_tell 130 = .ok (.iadd, 1) := by decide +kernel
theorem d_Mod_tell_131 : decode b_Mod_tell 131 = .ok (.baload, 1) := by decide +kernel
theorem d_Mod_tell_132 : decode b_Mod_tell 132 = .ok (.ifCond .ne 11, 3) := by decide +kernel
theorem d_Mod_tell_135 : decode b_Mod_tell 135 = .ok (.aload_n 0, 1) := by decide +kernel
theorem d_Mod_tell_136 : decode b_Mod_tell 136 = .ok (.iconst 0, 1) := by decide +kernel
theorem d_Mod_tell_137 : decode b_Mod_tell 137 = .ok (.invokevirtual 159, 3) := by decide +kernel
theorem d_Mod_tell_140 : decode b_Mod_tell 140 = .ok (.goto 54, 3) := by decide +kernel
theorem d_Mod_tell_143 : decode b_Mod_tell 143 = .ok (.aload_n 0, 1) := by decide +kernel
theorem d_Mod_tell_144 : decode b_Mod_tell 144 = .ok (.iload_n 2, 1) := by decide +kernel
theorem d_Mod_tell_145 : decode b_Mod_tell 145 = .ok (.iload 4, 2) := by decide +kernel
theorem d_Mod_tell_147 : decode b_Mod_tell 147 = .ok (.bipush 85, 2) := by decide +kernel
theorem d_Mod_tell_149 : decode b_Mod_tell 149 = .ok (.if_icmp .ne 11, 3) := by decide +kernel
theorem d_Mod_tell_152 : decode b_Mod_tell 152 = .ok (.aload_n 0, 1) := by decide +kernel
theorem d_Mod_tell_153 : decode b_Mod_tell 153 = .ok (.iload_n 2, 1) := by decide +kernel
theorem d_Mod_tell_154 : decode b_Mod_tell 154 = .ok (.invokevirtual 204, 3) := by decide +kernel
theorem d_Mod_tell_157 : decode b_Mod_tell 157 = .ok (.goto 34, 3) := by decide +kernel
theorem d_Mod_tell_160 : decode b_Mod_tell 160 = .ok (.iload 4, 2) := by decide +kernel
theorem d_Mod_tell_162 : decode b_Mod_tell 162 = .ok (.bipush 104, 2) := by decide +kernel
theorem d_Mod_tell_164 : decode b_Mod_tell 164 = .ok (.if_icmp .ne 15, 3) := by decide +kernel
theorem d_Mod_tell_167 : decode b_Mod_tell 167 = .ok (.aload_n 0, 1) := by decide +kernel
theorem d_Mod_tell_168 : decode b_Mod_tell 168 = .ok (.getfield 28, 3) := by decide +kernel
theorem d_Mod_tell_171 : decode b_Mod_tell 171 = .ok (.bipush 17, 2) := by decide +kernel
theorem d_Mod_tell_173 : decode b_Mod_tell 173 = .ok (.iload_n 2, 1) := by decide +kernel
theorem d_Mod_tell_174 : decode b_Mod_tell 174 = .ok (.imul, 1) := by decide +kernel
theorem d_Mod_tell_175 : decode b_Mod_tell 175 = .ok (.iaload, 1) := by decide +kernel
theorem d_Mod_tell_176 : decode b_Mod_tell 176 = .ok (.goto 15, 3) := by decide +kernel
theorem d_Mod_tell_179 : decode b_Mod_tell 179 = .ok (.aload_n 0, 1) := by decide +kernel
theorem d_Mod_tell_180 : decode b_Mod_tell 180 = .ok (.getfield 28, 3) := by decide +kernel
theorem d_Mod_tell_183 : decode b_Mod_tell 183 = .ok (.bipush 17, 2) := by decide +kernel
theorem d_Mod_tell_185 : decode b_Mod_tell 185 = .ok (.iload_n 2, 1) := by decide +kernel
theorem d_Mod_tell_186 : decode b_Mod_tell 186 = .ok (.imul, 1) := by decide +kernel
theorem d_Mod_tell_187 : decode b_Mod_tell 187 = .ok (.iload 5, 2) := by decide +kernel
theorem d_Mod_tell_189 : decode b_Mod_tell 189 = .ok (.iadd, 1) := by decide +kernel
theorem d_Mod_tell_190 : decode b_Mod_tell 190 = .ok (.iaload, 1) := by decide +kernel
theorem d_Mod_tell_191 : decode b_Mod_tell 191 = .ok (.invokevirtual 207, 3) := by decide +kernel
theorem d_Mod_tell_194 : decode b_Mod_tell 194 = .ok (.aload_n 0, 1) := by decide +kernel
theorem d_Mod_tell_195 : decode b_Mod_tell 195 = .ok (.bipush 63, 2) := by decide +kernel
theorem d_Mod_tell_197 : decode b_Mod_tell 197 = .ok (.invokevirtual 159, 3) := by decide +kernel
theorem d_Mod_tell_200 : decode b_Mod_tell 200 = .ok (.return_, 1) := by decide +kernel
theorem d_Mod_addInt_0 : decode b_Mod_addInt 0 = .ok (.bipush 24, 2) := by decide +kernel
theorem d_Mod_addInt_2 : decode b_Mod_addInt 2 = .ok (.istore_n 2, 1) := by decide +kernel
theorem d_Mod_addInt_3 : decode b_Mod_addInt 3 = .ok (.iload_n 2, 1) := by decide +kernel
theorem d_Mod_addInt_4 : decode b_Mod_addInt 4 = .ok (.ifCond .lt 20, 3) := by decide +kernel
theorem d_Mod_addInt_7 : decode b_Mod_addInt 7 = .ok (.aload_n 0, 1) := by decide +kernel
theorem d_Mod_addInt_8 : decode b_Mod_addInt 8 = .ok (.iload_n 1, 1) := by decide +kernel
theorem d_Mod_addInt_9 : decode b_Mod_addInt 9 = .ok (.iload_n 2, 1) := by decide +kernel
theorem d_Mod_addInt_10 : decode b_Mod_addInt 10 = .ok (.iushr, 1) := by decide +kernel
theorem d_Mod_addInt_11 : decode b_Mod_addInt 11 = .ok (.sipush 255, 3) := by decide +kernel
theorem d_Mod_addInt_14 : decode b_Mod_addInt 14 = .ok (.iand, 1) := by decide +kernel
theorem d_Mod_addInt_15 : decode b_Mod_addInt 15 = .ok (.invokevirtual 159, 3) := by decide +kernel
theorem d_Mod_addInt_18 : decode b_Mod_addInt 18 = .ok (.iinc 2 (-8), 3) := by decide +kernel
theorem d_Mod_addInt_21 : decode b_Mod_addInt 21 = .ok (.goto (-18), 3) := by decide +kernel
theorem d_Mod_addInt_24 : decode b_Mod_addInt 24 = .ok (.return_, 1) := by decide +kernel
theorem d_Mod_presentOf_0 : decode b_Mod_presentOf 0 = .ok (.aload_n 0, 1) := by decide +kernel
theorem d_Mod_presentOf_1 : decode b_Mod_presentOf 1 = .ok (.getfield 28, 3) := by decide +kernel
theorem d_Mod_presentOf_4 : decode b_Mod_presentOf 4 = .ok (.bipush 17, 2) := by decide +kernel
theorem d_Mod_presentOf_6 : decode b_Mod_presentOf 6 = .ok (.iload_n 1, 1) := by decide +kernel
theorem d_Mod_presentOf_7 : decode b_Mod_presentOf 7 = .ok (.imul, 1) := by decide +kernel
theorem d_Mod_presentOf_8 : decode b_Mod_presentOf 8 = .ok (.iaload, 1) := by decide +kernel
theorem d_Mod_presentOf_9 : decode b_Mod_presentOf 9 = .ok (.istore_n 2, 1) := by decide +kernel
theorem d_Mod_presentOf_10 : decode b_Mod_presentOf 10 = .ok (.bipush 16, 2) := by decide +kernel
theorem d_Mod_presentOf_12 : decode b_Mod_presentOf 12 = .ok (.istore_n 3, 1) := by decide +kernel
theorem d_Mod_presentOf_13 : decode b_Mod_presentOf 13 = .ok (.iload_n 3, 1) := by decide +kernel
theorem d_Mod_presentOf_14 : decode b_Mod_presentOf 14 = .ok (.ifCond .le 39, 3) := by decide +kernel
theorem d_Mod_presentOf_17 : decode b_Mod_presentOf 17 = .ok (.aload_n 0, 1) := by decide +kernel
theorem d_Mod_presentOf_18 : decode b_Mod_presentOf 18 = .ok (.getfield 31, 3) := by decide +kernel
theorem d_Mod_presentOf_21 : decode b_Mod_presentOf 21 = .ok (.bipush 17, 2) := by decide +kernel
theorem d_Mod_presentOf_23 : decode b_Mod_presentOf 23 = .ok (.iload_n 1, 1) := by decide +kernel
theorem d_Mod_presentOf_24 : decode b_Mod_presentOf 24 = .ok (.imul, 1) := by decide +kernel
theorem d_Mod_presentOf_25 : decode b_Mod_presentOf 25 = .ok (.iload_n 3, 1) := by decide +kernel
theorem d_Mod_presentOf_26 : decode b_Mod_presentOf 26 = .ok (.iadd, 1) := by decide +kernel
theorem d_Mod_presentOf_27 : decode b_Mod_presentOf 27 = .ok (.baload, 1) := by decide +kernel
theorem d_Mod_presentOf_28 : decode b_Mod_presentOf 28 = .ok (.ifCond .eq 17, 3) := by decide +kernel
theorem d_Mod_presentOf_31 : decode b_Mod_presentOf 31 = .ok (.aload_n 0, 1) := by decide +kernel
theorem d_Mod_presentOf_32 : decode b_Mod_presentOf 32 = .ok (.getfield 28, 3) := by decide +kernel
theorem d_Mod_presentOf_35 : decode b_Mod_presentOf 35 = .ok (.bipush 17, 2) := by decide +kernel
theorem d_Mod_presentOf_37 : decode b_Mod_presentOf 37 = .ok (.iload_n 1, 1) := by decide +kernel
theorem d_Mod_presentOf_38 : decode b_Mod_presentOf 38 = .ok (.imul, 1) := by decide +kernel
theorem d_Mod_presentOf_39 : decode b_Mod_presentOf 39 = .ok (.iload_n 3, 1) := by decide +kernel
theorem d_Mod_presentOf_40 : decode b_Mod_presentOf 40 = .ok (.iadd, 1) := by decide +kernel
theorem d_Mod_presentOf_41 : decode b_Mod_presentOf 41 = .ok (.iaload, 1) := by decide +kernel
theorem d_Mod_presentOf_42 : decode b_Mod_presentOf 42 = .ok (.goto 4, 3) := by decide +kernel
theorem d_Mod_presentOf_45 : decode b_Mod_presentOf 45 = .ok (.iload_n 2, 1) := by decide +kernel
theorem d_Mod_presentOf_46 : decode b_Mod_presentOf 46 = .ok (.istore_n 2, 1) := by decide +kernel
theorem d_Mod_presentOf_47 : decode b_Mod_presentOf 47 = .ok (.iinc 3 (-1), 3) := by decide +kernel
theorem d_Mod_presentOf_50 : decode b_Mod_presentOf 50 = .ok (.goto (-37), 3) := by decide +kernel
theorem d_Mod_presentOf_53 : decode b_Mod_presentOf 53 = .ok (.iload_n 2, 1) := by decide +kernel
theorem d_Mod_presentOf_54 : decode b_Mod_presentOf 54 = .ok (.ireturn, 1) := by decide +kernel
theorem d_Mod_addValue_0 : decode b_Mod_addValue 0 = .ok (.iload_n 1, 1) := by decide +kernel
theorem d_Mod_addValue_1 : decode b_Mod_addValue 1 = .ok (.iconst 2, 1) := by decide +kernel
theorem d_Mod_addValue_2 : decode b_Mod_addValue 2 = .ok (.if_icmp .ge 17, 3) := by decide +kernel
theorem d_Mod_addValue_5 : decode b_Mod_addValue 5 = .ok (.aload_n 0, 1) := by decide +kernel
theorem d_Mod_addValue_6 : decode b_Mod_addValue 6 = .ok (.bipush 68, 2) := by decide +kernel
theorem d_Mod_addValue_8 : decode b_Mod_addValue 8 = .ok (.invokevirtual 159, 3) := by decide +kernel
theorem d_Mod_addValue_11 : decode b_Mod_addValue 11 = .ok (.aload_n 0, 1) := by decide +kernel
theorem d_Mod_addValue_12 : decode b_Mod_addValue 12 = .ok (.iload_n 2, 1) := by decide +kernel
theorem d_Mod_addValue_13 : decode b_Mod_addValue 13 = .ok (.invokevirtual 162, 3) := by decide +kernel
theorem d_Mod_addValue_16 : decode b_Mod_addValue 16 = .ok (.goto 15, 3) := by decide +kernel
theorem d_Mod_addValue_19 : decode b_Mod_addValue 19 = .ok (.aload_n 0, 1) := by decide +kernel
theorem d_Mod_addValue_20 : decode b_Mod_addValue 20 = .ok (.sipush 145, 3) := by decide +kernel
theorem d_Mod_addValue_23 : decode b_Mod_addValue 23 = .ok (.invokevirtual 159, 3) := by decide +kernel
theorem d_Mod_addValue_26 : decode b_Mod_addValue 26 = .ok (.aload_n 0, 1) := by decide +kernel
theorem d_Mod_addValue_27 : decode b_Mod_addValue 27 = .ok (.iload_n 2, 1) := by decide +kernel
theorem d_Mod_addValue_28 : decode b_Mod_addValue 28 = .ok (.invokevirtual 159, 3) := by decide +kernel
theorem d_Mod_addValue_31 : decode b_Mod_addValue 31 = .ok (.return_, 1) := by decide +kernel
theorem d_Mod_use_0 : decode b_Mod_use 0 = .ok (.aload_n 0, 1) := by decide +kernel
theorem d_Mod_use_1 : decode b_Mod_use 1 = .ok (.aload_n 0, 1) := by decide +kernel
theorem d_Mod_use_2 : decode b_Mod_use 2 = .ok (.getfield 133, 3) := by decide +kernel
theorem d_Mod_use_5 : decode b_Mod_use 5 = .ok (.ifCond .eq 7, 3) := by decide +kernel
theorem d_Mod_use_8 : decode b_Mod_use 8 = .ok (.iconst 2, 1) := by decide +kernel
theorem d_Mod_use_9 : decode b_Mod_use 9 = .ok (.goto 4, 3) := by decide +kernel
theorem d_Mod_use_12 : decode b_Mod_use 12 = .ok (.iconst 3, 1) := by decide +kernel
theorem d_Mod_use_13 : decode b_Mod_use 13 = .ok (.putfield 100, 3) := by decide +kernel
theorem d_Mod_use_16 : decode b_Mod_use 16 = .ok (.aload_n 0, 1) := by decide +kernel
theorem d_Mod_use_17 : decode b_Mod_use 17 = .ok (.getfield 133, 3) := by decide +kernel
theorem d_Mod_use_20 : decode b_Mod_use 20 = .ok (.ifCond .eq 45, 3) := by decide +kernel
theorem d_Mod_use_23 : decode b_Mod_use 23 = .ok (.iconst 0, 1) := by decide +kernel
theorem d_Mod_use_24 : decode b_Mod_use 24 = .ok (.istore_n 1, 1) := by decide +kernel
theorem d_Mod_use_25 : decode b_Mod_use 25 = .ok (.iload_n 1, 1) := by decide +kernel
theorem d_Mod_use_26 : decode b_Mod_use 26 = .ok (.bipush 13, 2) := by decide +kernel
theorem d_Mod_use_28 : decode b_Mod_use 28 = .ok (.if_icmp .ge 21, 3) := by decide +kernel
theorem d_Mod_use_31 : decode b_Mod_use 31 = .ok (.aload_n 0, 1) := by decide +kernel
theorem d_Mod_use_32 : decode b_Mod_use 32 = .ok (.getfield 19, 3) := by decide +kernel
theorem d_Mod_use_35 : decode b_Mod_use 35 = .ok (.iload_n 1, 1) := by decide +kernel
theorem d_Mod_use_36 : decode b_Mod_use 36 = .ok (.aload_n 0, 1) := by decide +kernel
theorem d_Mod_use_37 : decode b_Mod_use 37 = .ok (.getfield 25, 3) := by decide +kernel
theorem d_Mod_use_40 : decode b_Mod_use 40 = .ok (.iload_n 1, 1) := by decide +kernel
theorem d_Mod_use_41 : decode b_Mod_use 41 = .ok (.iaload, 1) := by decide +kernel
theorem d_Mod_use_42 : decode b_Mod_use 42 = .ok (.iastore, 1) := by decide +kernel
theorem d_Mod_use_43 : decode b_Mod_use 43 = .ok (.iinc 1 1, 3) := by decide +kernel
theorem d_Mod_use_46 : decode b_Mod_use 46 = .ok (.goto (-21), 3) := by decide +kernel
theorem d_Mod_use_49 : decode b_Mod_use 49 = .ok (.aload_n 0, 1) := by decide +kernel
theorem d_Mod_use_50 : decode b_Mod_use 50 = .ok (.iconst 0, 1) := by decide +kernel
theorem d_Mod_use_51 : decode b_Mod_use 51 = .ok (.putfield 133, 3) := by decide +kernel
theorem d_Mod_use_54 : decode b_Mod_use 54 = .ok (.aload_n 0, 1) := by decide +kernel
theorem d_Mod_use_55 : decode b_Mod_use 55 = .ok (.iconst 5, 1) := by decide +kernel
theorem d_Mod_use_56 : decode b_Mod_use 56 = .ok (.aload_n 0, 1) := by decide +kernel
theorem d_Mod_use_57 : decode b_Mod_use 57 = .ok (.getfield 136, 3) := by decide +kernel
theorem d_Mod_use_60 : decode b_Mod_use 60 = .ok (.bipush 13, 2) := by decide +kernel
theorem d_Mod_use_62 : decode b_Mod_use 62 = .ok (.invokevirtual 67, 3) := by decide +kernel
theorem d_Mod_use_65 : decode b_Mod_use 65 = .ok (.iconst 1, 1) := by decide +kernel
theorem d_Mod_use_66 : decode b_Mod_use 66 = .ok (.ireturn, 1) := by decide +kernel
theorem d_Mod_awaits_0 : decode b_Mod_awaits 0 = .ok (.aload_n 0, 1) := by decide +kernel
theorem d_Mod_awaits_1 : decode b_Mod_awaits 1 = .ok (.getfield 94, 3) := by decide +kernel
theorem d_Mod_awaits_4 : decode b_Mod_awaits 4 = .ok (.ifCond .eq 120, 3) := by decide +kernel
theorem d_Mod_awaits_7 : decode b_Mod_awaits 7 = .ok (.aload_n 0, 1) := by decide +kernel
theorem d_Mod_awaits_8 : decode b_Mod_awaits 8 = .ok (.getfield 7, 3) := by decide +kernel
theorem d_Mod_awaits_11 : decode b_Mod_awaits 11 = .ok (.iconst 1, 1) := by decide +kernel
theorem d_Mod_awaits_12 : decode b_Mod_awaits 12 = .ok (.iaload, 1) := by decide +kernel
theorem d_Mod_awaits_13 : decode b_Mod_awaits 13 = .ok (.aload_n 0, 1) := by decide +kernel
theorem d_Mod_awaits_14 : decode b_Mod_awaits 14 = .ok (.getfield 39, 3) := by decide +kernel
theorem d_Mod_awaits_17 : decode b_Mod_awaits 17 = .ok (.if_icmp .ne 7, 3) := by decide +kernel
theorem d_Mod_awaits_20 : decode b_Mod_awaits 20 = .ok (.iconst 1, 1) := by decide +kernel
theorem d_Mod_awaits_21 : decode b_Mod_awaits 21 = .ok (.goto 4, 3) := by decide +kernel
theorem d_Mod_awaits_24 : decode b_Mod_awaits 24 = .ok (.iconst 0, 1) := by decide +kernel
theorem d_Mod_awaits_25 : decode b_Mod_awaits 25 = .ok (.istore_n 1, 1) := by decide +kernel
theorem d_Mod_awaits_26 : decode b_Mod_awaits 26 = .ok (.iload_n 1, 1) := by decide +kernel
theorem d_Mod_awaits_27 : decode b_Mod_awaits 27 = .ok (.ifCond .eq 50, 3) := by decide +kernel
theorem d_Mod_awaits_30 : decode b_Mod_awaits 30 = .ok (.aload_n 0, 1) := by decide +kernel
theorem d_Mod_awaits_31 : decode b_Mod_awaits 31 = .ok (.getfield 7, 3) := by decide +kernel
theorem d_Mod_awaits_34 : decode b_Mod_awaits 34 = .ok (.iconst 0, 1) := by decide +kernel
theorem d_Mod_awaits_35 : decode b_Mod_awaits 35 = .ok (.iaload, 1) := by decide +kernel
theorem d_Mod_awaits_36 : decode b_Mod_awaits 36 = .ok (.bipush 6, 2) := by decide +kernel
theorem d_Mod_awaits_38 : decode b_Mod_awaits 38 = .ok (.if_icmp .ne 39, 3) := by decide +kernel
theorem d_Mod_awaits_41 : decode b_Mod_awaits 41 = .ok (.iconst 0, 1) := by decide +kernel
theorem d_Mod_awaits_42 : decode b_Mod_awaits 42 = .ok (.istore_n 2, 1) := by decide +kernel
theorem d_Mod_awaits_43 : decode b_Mod_awaits 43 = .ok (.iload_n 2, 1) := by decide +kernel
theorem d_Mod_awaits_44 : decode b_Mod_awaits 44 = .ok (.aload_n 0, 1) := by decide +kernel
theorem d_Mod_awaits_45 : decode b_Mod_awaits 45 = .ok (.getfield 80, 3) := by decide +kernel
theorem d_Mod_awaits_48 : decode b_Mod_awaits 48 = .ok (.if_icmp .ge 21, 3) := by decide +kernel
theorem d_Mod_awaits_51 : decode b_Mod_awaits 51 = .ok (.aload_n 0, 1) := by decide +kernel
theorem d_Mod_awaits_52 : decode b_Mod_awaits 52 = .ok (.getfield 22, 3) := by decide +kernel
theorem d_Mod_awaits_55 : decode b_Mod_awaits 55 = .ok (.iload_n 2, 1) := by decide +kernel
theorem d_Mod_awaits_56 : decode b_Mod_awaits 56 = .ok (.aload_n 0, 1) := by decide +kernel
theorem d_Mod_awaits_57 : decode b_Mod_awaits 57 = .ok (.getfield 13, 3) := by decide +kernel
theorem d_Mod_awaits_60 : decode b_Mod_awaits 60 = .ok (.iload_n 2, 1) := by decide +kernel
theorem d_Mod_awaits_61 : decode b_Mod_awaits 61 = .ok (.iaload, 1) := by decide +kernel
theorem d_Mod_awaits_62 : decode b_Mod_awaits 62 = .ok (.iastore, 1) := by decide +kernel
theorem d_Mod_awaits_63 : decode b_Mod_awaits 63 = .ok (.iinc 2 1, 3) := by decide +kernel
theorem d_Mod_awaits_66 : decode b_Mod_awaits 66 = .ok (.goto (-23), 3) := by decide +kernel
theorem d_Mod_awaits_69 : decode b_Mod_awaits 69 = .ok (.aload_n 0, 1) := by decide +kernel
theorem d_Mod_awaits_70 : decode b_Mod_awaits 70 = .ok (.aload_n 0, 1) := by decide +kernel
theorem d_Mod_awaits_71 : decode b_Mod_awaits 71 = .ok (.getfield 80, 3) := by decide +kernel
theorem d_Mod_awaits_74 : decode b_Mod_awaits 74 = .ok (.putfield 139, 3) := by decide +kernel
theorem d_Mod_awaits_77 : decode b_Mod_awaits 77 = .ok (.aload_n 0, 1) := by decide +kernel
theorem d_Mod_awaits_78 : decode b_Mod_awaits 78 = .ok (.iload_n 1, 1) := by decide +kernel
theorem d_Mod_awaits_79 : decode b_Mod_awaits 79 = .ok (.ifCond .eq 39, 3) := by decide +kernel
theorem d_Mod_awaits_82 : decode b_Mod_awaits 82 = .ok (.aload_n 0, 1) := by decide +kernel
theorem d_Mod_awaits_83 : decode b_Mod_awaits 83 = .ok (.getfield 7, 3) := by decide +kernel
theorem d_Mod_awaits_86 : decode b_Mod_awaits 86 = .ok (.iconst 0, 1) := by decide +kernel
theorem d_Mod_awaits_87 : decode b_Mod_awaits 87 = .ok (.iaload, 1) := by decide +kernel
theorem d_Mod_awaits_88 : decode b_Mod_awaits 88 = .ok (.bipush 6, 2) := by decide +kernel
theorem d_Mod_awaits_90 : decode b_Mod_awaits 90 = .ok (.if_icmp .eq 24, 3) := by decide +kernel
theorem d_Mod_awaits_93 : decode b_Mod_awaits 93 = .ok (.aload_n 0, 1) := by decide +kernel
theorem d_Mod_awaits_94 : decode b_Mod_awaits 94 = .ok (.getfield 7, 3) := by decide +kernel
theorem d_Mod_awaits_97 : decode b_Mod_awaits 97 = .ok (.iconst 0, 1) := by decide +kernel
theorem d_Mod_awaits_98 : decode b_Mod_awaits 98 = .ok (.iaload, 1) := by decide +kernel
theorem d_Mod_awaits_99 : decode b_Mod_awaits 99 = .ok (.iconst 4, 1) := by decide +kernel
theorem d_Mod_awaits_100 : decode b_Mod_awaits 100 = .ok (.if_icmp .eq 14, 3) := by decide +kernel
theorem d_Mod_awaits_103 : decode b_Mod_awaits 103 = .ok (.aload_n 0, 1) := by decide +kernel
theorem d_Mod_awaits_104 : decode b_Mod_awaits 104 = .ok (.getfield 7, 3) := by decide +kernel
theorem d_Mod_awaits_107 : decode b_Mod_awaits 107 = .ok (.iconst 0, 1) := by decide +kernel
theorem d_Mod_awaits_108 : decode b_Mod_awaits 108 = .ok (.iaload, 1) := by decide +kernel
theorem d_Mod_awaits_109 : decode b_Mod_awaits 109 = .ok (.bipush 7, 2) := by decide +kernel
theorem d_Mod_awaits_111 : decode b_Mod_awaits 111 = .ok (.if_icmp .ne 7, 3) := by decide +kernel
theorem d_Mod_awaits_114 : decode b_Mod_awaits 114 = .ok (.iconst 3, 1) := by decide +kernel
theorem d_Mod_awaits_115 : decode b_Mod_awaits 115 = .ok (.goto 4, 3) := by decide +kernel
theorem d_Mod_awaits_118 : decode b_Mod_awaits 118 = .ok (.iconst 0, 1) := by decide +kernel
theorem d_Mod_awaits_119 : decode b_Mod_awaits 119 = .ok (.putfield 100, 3) := by decide +kernel
theorem d_Mod_awaits_122 : decode b_Mod_awaits 122 = .ok (.iconst 1, 1) := by decide +kernel
theorem d_Mod_awaits_123 : decode b_Mod_awaits 123 = .ok (.ireturn, 1) := by decide +kernel
theorem d_Mod_awaits_124 : decode b_Mod_awaits 124 = .ok (.aload_n 0, 1) := by decide +kernel
theorem d_Mod_awaits_125 : decode b_Mod_awaits 125 = .ok (.getfield 86, 3) := by decide +kernel
theorem d_Mod_awaits_128 : decode b_Mod_awaits 128 = .ok (.ifCond .ne 15, 3) := by decide +kernel
theorem d_Mod_awaits_131 : decode b_Mod_awaits 131 = .ok (.aload_n 0, 1) := by decide +kernel
theorem d_Mod_awaits_132 : decode b_Mod_awaits 132 = .ok (.getfield 64, 3) := by decide +kernel
theorem d_Mod_awaits_135 : decode b_Mod_awaits 135 = .ok (.sipush 255, 3) := by decide +kernel
theorem d_Mod_awaits_138 : decode b_Mod_awaits 138 = .ok (.if_icmp .ge 5, 3) := by decide +kernel
theorem d_Mod_awaits_141 : decode b_Mod_awaits 141 = .ok (.iconst 0, 1) := by decide +kernel
theorem d_Mod_awaits_142 : decode b_Mod_awaits 142 = .ok (.ireturn, 1) := by decide +kernel
theorem d_Mod_awaits_143 : decode b_Mod_awaits 143 = .ok (.aload_n 0, 1) := by decide +kernel
theorem d_Mod_awaits_144 : decode b_Mod_awaits 144 = .ok (.iconst 3, 1) := by decide +kernel
theorem d_Mod_awaits_145 : decode b_Mod_awaits 145 = .ok (.putfield 100, 3) := by decide +kernel
theorem d_Mod_awaits_148 : decode b_Mod_awaits 148 = .ok (.iconst 1, 1) := by decide +kernel
theorem d_Mod_awaits_149 : decode b_Mod_awaits 149 = .ok (.ireturn, 1) := by decide +kernel
theorem d_Mod_done_0 : decode b_Mod_done 0 = .ok (.aload_n 0, 1) := by decide +kernel
theorem d_Mod_done_1 : decode b_Mod_done 1 = .ok (.getfield 124, 3) := by decide +kernel
theorem d_Mod_done_4 : decode b_Mod_done 4 = .ok (.ifCond .ne 35, 3) := by decide +kernel
theorem d_Mod_done_7 : decode b_Mod_done 7 = .ok (.aload_n 0, 1) := by decide +kernel
theorem d_Mod_done_8 : decode b_Mod_done 8 = .ok (.getfield 42, 3) := by decide +kernel
theorem d_Mod_done_11 : decode b_Mod_done 11 = .ok (.aload_n 0, 1) := by decide +kernel
theorem d_Mod_done_12 : decode b_Mod_done 12 = .ok (.getfield 39, 3) := by decide +kernel
theorem d_Mod_done_15 : decode b_Mod_done 15 = .ok (.if_icmp .ne 24, 3) := by decide +kernel
theorem d_Mod_done_18 : decode b_Mod_done 18 = .ok (.aload_n 0, 1) := by decide +kernel
theorem d_Mod_done_19 : decode b_Mod_done 19 = .ok (.aload_n 0, 1) := by decide +kernel
theorem d_Mod_done_20 : decode b_Mod_done 20 = .ok (.aload_n 0, 1) := by decide +kernel
theorem d_Mod_done_21 : decode b_Mod_done 21 = .ok (.getfield 39, 3) := by decide +kernel
theorem d_Mod_done_24 : decode b_Mod_done 24 = .ok (.invokevirtual 142, 3) := by decide +kernel
theorem d_Mod_done_27 : decode b_Mod_done 27 = .ok (.invokevirtual 146, 3) := by decide +kernel
theorem d_Mod_done_30 : decode b_Mod_done 30 = .ok (.aload_n 0, 1) := by decide +kernel
theorem d_Mod_done_31 : decode b_Mod_done 31 = .ok (.bipush 6, 2) := by decide +kernel
theorem d_Mod_done_33 : decode b_Mod_done 33 = .ok (.putfield 100, 3) := by decide +kernel
theorem d_Mod_done_36 : decode b_Mod_done 36 = .ok (.goto 157, 3) := by decide +kernel
theorem d_Mod_done_39 : decode b_Mod_done 39 = .ok (.aload_n 0, 1) := by decide +kernel
theorem d_Mod_done_40 : decode b_Mod_done 40 = .ok (.getfield 149, 3) := by decide +kernel
theorem d_Mod_done_43 : decode b_Mod_done 43 = .ok (.iconst 3, 1) := by decide +kernel
theorem d_Mod_done_44 : decode b_Mod_done 44 = .ok (.if_icmp .ge 45, 3) := by decide +kernel
theorem d_Mod_done_47 : decode b_Mod_done 47 = .ok (.aload_n 0, 1) := by decide +kernel
theorem d_Mod_done_48 : decode b_Mod_done 48 = .ok (.dup, 1) := by decide +kernel
theorem d_Mod_done_49 : decode b_Mod_done 49 = .ok (.getfield 149, 3) := by decide +kernel
theorem d_Mod_done_52 : decode b_Mod_done 52 = .ok (.iconst 1, 1) := by decide +kernel
theorem d_Mod_done_53 : decode b_Mod_done 53 = .ok (.iadd, 1) := by decide +kernel
theorem d_Mod_done_54 : decode b_Mod_done 54 = .ok (.putfield 149, 3) := by decide +kernel
theorem d_Mod_done_57 : decode b_Mod_done 57 = .ok (.aload_n 0, 1) := by decide +kernel
theorem d_Mod_done_58 : decode b_Mod_done 58 = .ok (.getfield 124, 3) := by decide +kernel
theorem d_Mod_done_61 : decode b_Mod_done 61 = .ok (.ifCond .eq 11, 3) := by decide +kernel
theorem d_Mod_done_64 : decode b_Mod_done 64 = .ok (.aload_n 0, 1) := by decide +kernel
theorem d_Mod_done_65 : decode b_Mod_done 65 = .ok (.iconst 1, 1) := by decide +kernel
theorem d_Mod_done_66 : decode b_Mod_done 66 = .ok (.putfield 100, 3) := by decide +kernel
theorem d_Mod_done_69 : decode b_Mod_done 69 = .ok (.goto 124, 3) := by decide +kernel
theorem d_Mod_done_72 : decode b_Mod_done 72 = .ok (.aload_n 0, 1) := by decide +kernel
theorem d_Mod_done_73 : decode b_Mod_done 73 = .ok (.iconst 0, 1) := by decide +kernel
theorem d_Mod_done_74 : decode b_Mod_done 74 = .ok (.putfield 152, 3) := by decide +kernel
theorem d_Mod_done_77 : decode b_Mod_done 77 = .ok (.aload_n 0, 1) := by decide +kernel
theorem d_Mod_done_78 : decode b_Mod_done 78 = .ok (.invokevirtual 155, 3) := by decide +kernel
theorem d_Mod_done_81 : decode b_Mod_done 81 = .ok (.aload_n 0, 1) := by decide +kernel
theorem d_Mod_done_82 : decode b_Mod_done 82 = .ok (.iconst 4, 1) := by decide +kernel
theorem d_Mod_done_83 : decode b_Mod_done 83 = .ok (.putfield 100, 3) := by decide +kernel
theorem d_Mod_done_86 : decode b_Mod_done 86 = .ok (.goto 107, 3) := by decide +kernel
theorem d_Mod_done_89 : decode b_Mod_done 89 = .ok (.aload_n 0, 1) := by decide +kernel
theorem d_Mod_done_90 : decode b_Mod_done 90 = .ok (.aload_n 0, 1) := by decide +kernel
theorem d_Mod_done_91 : decode b_Mod_done 91 = .ok (.getfield 45, 3) := by decide +kernel
theorem d_Mod_done_94 : decode b_Mod_done 94 = .ok (.invokevirtual 142, 3) := by decide +kernel
theorem d_Mod_done_97 : decode b_Mod_done 97 = .ok (.aload_n 0, 1) := by decide +kernel
theorem d_Mod_done_98 : decode b_Mod_done 98 = .ok (.getfield 42, 3) := by decide +kernel
theorem d_Mod_done_101 : decode b_Mod_done 101 = .ok (.if_icmp .eq 24, 3) := by decide +kernel
theorem d_Mod_done_104 : decode b_Mod_done 104 = .ok (.aload_n 0, 1) := by decide +kernel
theorem d_Mod_done_105 : decode b_Mod_done 105 = .ok (.aload_n 0, 1) := by decide +kernel
theorem d_Mod_done_106 : decode b_Mod_done 106 = .ok (.aload_n 0, 1) := by decide +kernel
theorem d_Mod_done_107 : decode b_Mod_done 107 = .ok (.getfield 45, 3) := by decide +kernel
theorem d_Mod_done_110 : decode b_Mod_done 110 = .ok (.invokevirtual 142, 3) := by decide +kernel
theorem d_Mod_done_113 : decode b_Mod_done 113 = .ok (.invokevirtual 146, 3) := by decide +kernel
theorem d_Mod_done_116 : decode b_Mod_done 116 = .ok (.aload_n 0, 1) := by decide +kernel
theorem d_Mod_done_117 : decode b_Mod_done 117 = .ok (.bipush 6, 2) := by decide +kernel
theorem d_Mod_done_119 : decode b_Mod_done 119 = .ok (.putfield 100, 3) := by decide +kernel
theorem d_Mod_done_122 : decode b_Mod_done 122 = .ok (.goto 71, 3) := by decide +kernel
theorem d_Mod_done_125 : decode b_Mod_done 125 = .ok (.aload_n 0, 1) := by decide +kernel
theorem d_Mod_done_126 : decode b_Mod_done 126 = .ok (.getfield 124, 3) := by decide +kernel
theorem d_Mod_done_129 : decode b_Mod_done 129 = .ok (.ifCond .eq 37, 3) := by decide +kernel
theorem d_Mod_done_132 : decode b_Mod_done 132 = .ok (.aload_n 0, 1) := by decide +kernel
theorem d_Mod_done_133 : decode b_Mod_done 133 = .ok (.aload_n 0, 1) := by decide +kernel
theorem d_Mod_done_134 : decode b_Mod_done 134 = .ok (.aload_n 0, 1) := by decide +kernel
theorem d_Mod_done_135 : decode b_Mod_done 135 = .ok (.getfield 42, 3) := by decide +kernel
theorem d_Mod_done_138 : decode b_Mod_done 138 = .ok (.invokevirtual 142, 3) := by decide +kernel
theorem d_Mod_done_141 : decode b_Mod_done 141 = .ok (.invokevirtual 146, 3) := by decide +kernel
theorem d_Mod_done_144 : decode b_Mod_done 144 = .ok (.aload_n 0, 1) := by decide +kernel
theorem d_Mod_done_145 : decode b_Mod_done 145 = .ok (.aload_n 0, 1) := by decide +kernel
theorem d_Mod_done_146 : decode b_Mod_done 146 = .ok (.getfield 39, 3) := by decide +kernel
theorem d_Mod_done_149 : decode b_Mod_done 149 = .ok (.putfield 42, 3) := by decide +kernel
theorem d_Mod_done_152 : decode b_Mod_done 152 = .ok (.aload_n 0, 1) := by decide +kernel
theorem d_Mod_done_153 : decode b_Mod_done 153 = .ok (.iconst 1, 1) := by decide +kernel
theorem d_Mod_done_154 : decode b_Mod_done 154 = .ok (.putfield 149, 3) := by decide +kernel
theorem d_Mod_done_157 : decode b_Mod_done 157 = .ok (.aload_n 0, 1) := by decide +kernel
theorem d_Mod_done_158 : decode b_Mod_done 158 = .ok (.bipush 6, 2) := by decide +kernel
theorem d_Mod_done_160 : decode b_Mod_done 160 = .ok (.putfield 100, 3) := by decide +kernel
theorem d_Mod_done_163 : decode b_Mod_done 163 = .ok (.goto 30, 3) := by decide +kernel
theorem d_Mod_done_166 : decode b_Mod_done 166 = .ok (.aload_n 0, 1) := by decide +kernel
theorem d_Mod_done_167 : decode b_Mod_done 167 = .ok (.aload_n 0, 1) := by decide +kernel
theorem d_Mod_done_168 : decode b_Mod_done 168 = .ok (.getfield 39, 3) := by decide +kernel
theorem d_Mod_done_171 : decode b_Mod_done 171 = .ok (.putfield 45, 3) := by decide +kernel
theorem d_Mod_done_174 : decode b_Mod_done 174 = .ok (.aload_n 0, 1) := by decide +kernel
theorem d_Mod_done_175 : decode b_Mod_done 175 = .ok (.iconst 0, 1) := by decide +kernel
theorem d_Mod_done_176 : decode b_Mod_done 176 = .ok (.putfield 152, 3) := by decide +kernel
theorem d_Mod_done_179 : decode b_Mod_done 179 = .ok (.aload_n 0, 1) := by decide +kernel
theorem d_Mod_done_180 : decode b_Mod_done 180 = .ok (.iconst 1, 1) := by decide +kernel
theorem d_Mod_done_181 : decode b_Mod_done 181 = .ok (.putfield 149, 3) := by decide +kernel
theorem d_Mod_done_184 : decode b_Mod_done 184 = .ok (.aload_n 0, 1) := by decide +kernel
theorem d_Mod_done_185 : decode b_Mod_done 185 = .ok (.invokevirtual 155, 3) := by decide +kernel
theorem d_Mod_done_188 : decode b_Mod_done 188 = .ok (.aload_n 0, 1) := by decide +kernel
theorem d_Mod_done_189 : decode b_Mod_done 189 = .ok (.iconst 4, 1) := by decide +kernel
theorem d_Mod_done_190 : decode b_Mod_done 190 = .ok (.putfield 100, 3) := by decide +kernel
theorem d_Mod_done_193 : decode b_Mod_done 193 = .ok (.iconst 1, 1) := by decide +kernel
theorem d_Mod_done_194 : decode b_Mod_done 194 = .ok (.ireturn, 1) := by decide +kernel
theorem d_Mod_behind_0 : decode b_Mod_behind 0 = .ok (.iload_n 1, 1) := by decide +kernel
theorem d_Mod_behind_1 : decode b_Mod_behind 1 = .ok (.aload_n 0, 1) := by decide +kernel
theorem d_Mod_behind_2 : decode b_Mod_behind 2 = .ok (.getfield 35, 3) := by decide +kernel
theorem d_Mod_behind_5 : decode b_Mod_behind 5 = .ok (.if_icmp .ne 7, 3) := by decide +kernel
theorem d_Mod_behind_8 : decode b_Mod_behind 8 = .ok (.iconst 0, 1) := by decide +kernel
theorem d_Mod_behind_9 : decode b_Mod_behind 9 = .ok (.goto 6, 3) := by decide +kernel
theorem d_Mod_behind_12 : decode b_Mod_behind 12 = .ok (.iload_n 1, 1) := by decide +kernel
theorem d_Mod_behind_13 : decode b_Mod_behind 13 = .ok (.iconst 1, 1) := by decide +kernel
theorem d_Mod_behind_14 : decode b_Mod_behind 14 = .ok (.iadd, 1) := by decide +kernel
theorem d_Mod_behind_15 : decode b_Mod_behind 15 = .ok (.ireturn, 1) := by decide +kernel
theorem d_Mod_poll_0 : decode b_Mod_poll 0 = .ok (.aload_n 0, 1) := by decide +kernel
theorem d_Mod_poll_1 : decode b_Mod_poll 1 = .ok (.iload_n 1, 1) := by decide +kernel
theorem d_Mod_poll_2 : decode b_Mod_poll 2 = .ok (.putfield 45, 3) := by decide +kernel
theorem d_Mod_poll_5 : decode b_Mod_poll 5 = .ok (.aload_n 0, 1) := by decide +kernel
theorem d_Mod_poll_6 : decode b_Mod_poll 6 = .ok (.iconst 1, 1) := by decide +kernel
theorem d_Mod_poll_7 : decode b_Mod_poll 7 = .ok (.iload_n 1, 1) := by decide +kernel
theorem d_Mod_poll_8 : decode b_Mod_poll 8 = .ok (.iconst 0, 1) := by decide +kernel
theorem d_Mod_poll_9 : decode b_Mod_poll 9 = .ok (.invokevirtual 67, 3) := by decide +kernel
theorem d_Mod_poll_12 : decode b_Mod_poll 12 = .ok (.return_, 1) := by decide +kernel
theorem d_Mod_pass_0 : decode b_Mod_pass 0 = .ok (.aload_n 0, 1) := by decide +kernel
theorem d_Mod_pass_1 : decode b_Mod_pass 1 = .ok (.iconst 0, 1) := by decide +kernel
theorem d_Mod_pass_2 : decode b_Mod_pass 2 = .ok (.aload_n 0, 1) := by decide +kernel
theorem d_Mod_pass_3 : decode b_Mod_pass 3 = .ok (.getfield 42, 3) := by decide +kernel
theorem d_Mod_pass_6 : decode b_Mod_pass 6 = .ok (.iconst 0, 1) := by decide +kernel
theorem d_Mod_pass_7 : decode b_Mod_pass 7 = .ok (.invokevirtual 67, 3) := by decide +kernel
theorem d_Mod_pass_10 : decode b_Mod_pass 10 = .ok (.aload_n 0, 1) := by decide +kernel
theorem d_Mod_pass_11 : decode b_Mod_pass 11 = .ok (.iconst 0, 1) := by decide +kernel
theorem d_Mod_pass_12 : decode b_Mod_pass 12 = .ok (.putfield 71, 3) := by decide +kernel
theorem d_Mod_pass_15 : decode b_Mod_pass 15 = .ok (.return_, 1) := by decide +kernel
theorem d_Mod_passing_0 : decode b_Mod_passing 0 = .ok (.aload_n 0, 1) := by decide +kernel
theorem d_Mod_passing_1 : decode b_Mod_passing 1 = .ok (.getfield 64, 3) := by decide +kernel
theorem d_Mod_passing_4 : decode b_Mod_passing 4 = .ok (.bipush 20, 2) := by decide +kernel
theorem d_Mod_passing_6 : decode b_Mod_passing 6 = .ok (.if_icmp .ge 20, 3) := by decide +kernel
theorem d_Mod_passing_9 : decode b_Mod_passing 9 = .ok (.aload_n 0, 1) := by decide +kernel
theorem d_Mod_passing_10 : decode b_Mod_passing 10 = .ok (.getfield 71, 3) := by decide +kernel
theorem d_Mod_passing_13 : decode b_Mod_passing 13 = .ok (.iconst 4, 1) := by decide +kernel
theorem d_Mod_passing_14 : decode b_Mod_passing 14 = .ok (.if_icmp .gt 5, 3) := by decide +kernel
theorem d_Mod_passing_17 : decode b_Mod_passing 17 = .ok (.iconst 0, 1) := by decide +kernel
theorem d_Mod_passing_18 : decode b_Mod_passing 18 = .ok (.ireturn, 1) := by decide +kernel
theorem d_Mod_passing_19 : decode b_Mod_passing 19 = .ok (.aload_n 0, 1) := by decide +kernel
theorem d_Mod_passing_20 : decode b_Mod_passing 20 = .ok (.iconst 0, 1) := by decide +kernel
theorem d_Mod_passing_21 : decode b_Mod_passing 21 = .ok (.putfield 100, 3) := by decide +kernel
theorem d_Mod_passing_24 : decode b_Mod_passing 24 = .ok (.iconst 1, 1) := by decide +kernel
theorem d_Mod_passing_25 : decode b_Mod_passing 25 = .ok (.ireturn, 1) := by decide +kernel
theorem d_Mod_passing_26 : decode b_Mod_passing 26 = .ok (.aload_n 0, 1) := by decide +kernel
theorem d_Mod_passing_27 : decode b_Mod_passing 27 = .ok (.getfield 152, 3) := by decide +kernel
theorem d_Mod_passing_30 : decode b_Mod_passing 30 = .ok (.ifCond .ne 15, 3) := by decide +kernel
theorem d_Mod_passing_33 : decode b_Mod_passing 33 = .ok (.aload_n 0, 1) := by decide +kernel
theorem d_Mod_passing_34 : decode b_Mod_passing 34 = .ok (.iconst 1, 1) := by decide +kernel
theorem d_Mod_passing_35 : decode b_Mod_passing 35 = .ok (.putfield 152, 3) := by decide +kernel
theorem d_Mod_passing_38 : decode b_Mod_passing 38 = .ok (.aload_n 0, 1) := by decide +kernel
theorem d_Mod_passing_39 : decode b_Mod_passing 39 = .ok (.invokevirtual 155, 3) := by decide +kernel
theorem d_Mod_passing_42 : decode b_Mod_passing 42 = .ok (.goto 34, 3) := by decide +kernel
theorem d_Mod_passing_45 : decode b_Mod_passing 45 = .ok (.aload_n 0, 1) := by decide +kernel
theorem d_Mod_passing_46 : decode b_Mod_passing 46 = .ok (.aload_n 0, 1) := by decide +kernel
theorem d_Mod_passing_47 : decode b_Mod_passing 47 = .ok (.aload_n 0, 1) := by decide +kernel
theorem d_Mod_passing_48 : decode b_Mod_passing 48 = .ok (.getfield 42, 3) := by decide +kernel
theorem d_Mod_passing_51 : decode b_Mod_passing 51 = .ok (.invokevirtual 142, 3) := by decide +kernel
theorem d_Mod_passing_54 : decode b_Mod_passing 54 = .ok (.invokevirtual 146, 3) := by decide +kernel
theorem d_Mod_passing_57 : decode b_Mod_passing 57 = .ok (.aload_n 0, 1) := by decide +kernel
theorem d_Mod_passing_58 : decode b_Mod_passing 58 = .ok (.aload_n 0, 1) := by decide +kernel
theorem d_Mod_passing_59 : decode b_Mod_passing 59 = .ok (.getfield 39, 3) := by decide +kernel
theorem d_Mod_passing_62 : decode b_Mod_passing 62 = .ok (.putfield 42, 3) := by decide +kernel
theorem d_Mod_passing_65 : decode b_Mod_passing 65 = .ok (.aload_n 0, 1) := by decide +kernel
theorem d_Mod_passing_66 : decode b_Mod_passing 66 = .ok (.iconst 0, 1) := by decide +kernel
theorem d_Mod_passing_67 : decode b_Mod_passing 67 = .ok (.putfield 149, 3) := by decide +kernel
theorem d_Mod_passing_70 : decode b_Mod_passing 70 = .ok (.aload_n 0, 1) := by decide +kernel
theorem d_Mod_passing_71 : decode b_Mod_passing 71 = .ok (.bipush 6, 2) := by decide +kernel
theorem d_Mod_passing_73 : decode b_Mod_passing 73 = .ok (.putfield 100, 3) := by decide +kernel
theorem d_Mod_passing_76 : decode b_Mod_passing 76 = .ok (.iconst 1, 1) := by decide +kernel
theorem d_Mod_passing_77 : decode b_Mod_passing 77 = .ok (.ireturn, 1) := by decide +kernel
theorem d_Mod_lost_0 : decode b_Mod_lost 0 = .ok (.aload_n 0, 1) := by decide +kernel
theorem d_Mod_lost_1 : decode b_Mod_lost 1 = .ok (.getfield 71, 3) := by decide +kernel
theorem d_Mod_lost_4 : decode b_Mod_lost 4 = .ok (.iconst 4, 1) := by decide +kernel
theorem d_Mod_lost_5 : decode b_Mod_lost 5 = .ok (.if_icmp .le 10, 3) := by decide +kernel
theorem d_Mod_lost_8 : decode b_Mod_lost 8 = .ok (.aload_n 0, 1) := by decide +kernel
theorem d_Mod_lost_9 : decode b_Mod_lost 9 = .ok (.iconst 0, 1) := by decide +kernel
theorem d_Mod_lost_10 : decode b_Mod_lost 10 = .ok (.putfield 100, 3) := by decide +kernel
theorem d_Mod_lost_13 : decode b_Mod_lost 13 = .ok (.iconst 1, 1) := by decide +kernel
theorem d_Mod_lost_14 : decode b_Mod_lost 14 = .ok (.ireturn, 1) := by decide +kernel
theorem d_Mod_lost_15 : decode b_Mod_lost 15 = .ok (.aload_n 0, 1) := by decide +kernel
theorem d_Mod_lost_16 : decode b_Mod_lost 16 = .ok (.getfield 64, 3) := by decide +kernel
theorem d_Mod_lost_19 : decode b_Mod_lost 19 = .ok (.sipush 500, 3) := by decide +kernel
theorem d_Mod_lost_22 : decode b_Mod_lost 22 = .ok (.bipush 10, 2) := by decide +kernel
theorem d_Mod_lost_24 : decode b_Mod_lost 24 = .ok (.aload_n 0, 1) := by decide +kernel
theorem d_Mod_lost_25 : decode b_Mod_lost 25 = .ok (.getfield 39, 3) := by decide +kernel
theorem d_Mod_lost_28 : decode b_Mod_lost 28 = .ok (.imul, 1) := by decide +kernel
