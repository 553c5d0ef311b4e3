theorem d_Desk_init_0 : decode b_Desk_init 0 = .ok (.aload_n 0, 1) := by decide +kernel
theorem d_Desk_init_1 : decode b_Desk_init 1 = .ok (.invokespecial 3, 3) := by decide +kernel
theorem d_Desk_init_4 : decode b_Desk_init 4 = .ok (.aload_n 0, 1) := by decide +kernel
theorem d_Desk_init_5 : decode b_Desk_init 5 = .ok (.iconst 4, 1) := by decide +kernel
theorem d_Desk_init_6 : decode b_Desk_init 6 = .ok (.anewarray 9, 3) := by decide +kernel
theorem d_Desk_init_9 : decode b_Desk_init 9 = .ok (.putfield 11, 3) := by decide +kernel
theorem d_Desk_init_12 : decode b_Desk_init 12 = .ok (.aload_n 0, 1) := by decide +kernel
theorem d_Desk_init_13 : decode b_Desk_init 13 = .ok (.new 17, 3) := by decide +kernel
theorem d_Desk_init_16 : decode b_Desk_init 16 = .ok (.dup, 1) := by decide +kernel
theorem d_Desk_init_17 : decode b_Desk_init 17 = .ok (.bipush 32, 2) := by decide +kernel
theorem d_Desk_init_19 : decode b_Desk_init 19 = .ok (.invokespecial 19, 3) := by decide +kernel
theorem d_Desk_init_22 : decode b_Desk_init 22 = .ok (.putfield 22, 3) := by decide +kernel
theorem d_Desk_init_25 : decode b_Desk_init 25 = .ok (.aload_n 0, 1) := by decide +kernel
theorem d_Desk_init_26 : decode b_Desk_init 26 = .ok (.new 17, 3) := by decide +kernel
theorem d_Desk_init_29 : decode b_Desk_init 29 = .ok (.dup, 1) := by decide +kernel
theorem d_Desk_init_30 : decode b_Desk_init 30 = .ok (.iconst 0, 1) := by decide +kernel
theorem d_Desk_init_31 : decode b_Desk_init 31 = .ok (.invokespecial 19, 3) := by decide +kernel
theorem d_Desk_init_34 : decode b_Desk_init 34 = .ok (.putfield 26, 3) := by decide +kernel
theorem d_Desk_init_37 : decode b_Desk_init 37 = .ok (.aload_n 0, 1) := by decide +kernel
theorem d_Desk_init_38 : decode b_Desk_init 38 = .ok (.iconst 0, 1) := by decide +kernel
theorem d_Desk_init_39 : decode b_Desk_init 39 = .ok (.putfield 29, 3) := by decide +kernel
theorem d_Desk_init_42 : decode b_Desk_init 42 = .ok (.aload_n 0, 1) := by decide +kernel
theorem d_Desk_init_43 : decode b_Desk_init 43 = .ok (.iconst 0, 1) := by decide +kernel
theorem d_Desk_init_44 : decode b_Desk_init 44 = .ok (.putfield 33, 3) := by decide +kernel
theorem d_Desk_init_47 : decode b_Desk_init 47 = .ok (.aload_n 0, 1) := by decide +kernel
theorem d_Desk_init_48 : decode b_Desk_init 48 = .ok (.iconst 0, 1) := by decide +kernel
theorem d_Desk_init_49 : decode b_Desk_init 49 = .ok (.putfield 36, 3) := by decide +kernel
theorem d_Desk_init_52 : decode b_Desk_init 52 = .ok (.aload_n 0, 1) := by decide +kernel
theorem d_Desk_init_53 : decode b_Desk_init 53 = .ok (.iconst 0, 1) := by decide +kernel
theorem d_Desk_init_54 : decode b_Desk_init 54 = .ok (.putfield 39, 3) := by decide +kernel
theorem d_Desk_init_57 : decode b_Desk_init 57 = .ok (.aload_n 0, 1) := by decide +kernel
theorem d_Desk_init_58 : decode b_Desk_init 58 = .ok (.aconst_null, 1) := by decide +kernel
theorem d_Desk_init_59 : decode b_Desk_init 59 = .ok (.putfield 42, 3) := by decide +kernel
theorem d_Desk_init_62 : decode b_Desk_init 62 = .ok (.aload_n 0, 1) := by decide +kernel
theorem d_Desk_init_63 : decode b_Desk_init 63 = .ok (.iconst 0, 1) := by decide +kernel
theorem d_Desk_init_64 : decode b_Desk_init 64 = .ok (.putfield 46, 3) := by decide +kernel
theorem d_Desk_init_67 : decode b_Desk_init 67 = .ok (.aload_n 0, 1) := by decide +kernel
theorem d_Desk_init_68 : decode b_Desk_init 68 = .ok (.iconst (-1), 1) := by decide +kernel
theorem d_Desk_init_69 : decode b_Desk_init 69 = .ok (.putfield 49, 3) := by decide +kernel
theorem d_Desk_init_72 : decode b_Desk_init 72 = .ok (.aload_n 0, 1) := by decide +kernel
theorem d_Desk_init_73 : decode b_Desk_init 73 = .ok (.iconst 0, 1) := by decide +kernel
theorem d_Desk_init_74 : decode b_Desk_init 74 = .ok (.putfield 52, 3) := by decide +kernel
theorem d_Desk_init_77 : decode b_Desk_init 77 = .ok (.aload_n 0, 1) := by decide +kernel
theorem d_Desk_init_78 : decode b_Desk_init 78 = .ok (.iconst 0, 1) := by decide +kernel
theorem d_Desk_init_79 : decode b_Desk_init 79 = .ok (.putfield 55, 3) := by decide +kernel
theorem d_Desk_init_82 : decode b_Desk_init 82 = .ok (.aload_n 0, 1) := by decide +kernel
theorem d_Desk_init_83 : decode b_Desk_init 83 = .ok (.bipush 16, 2) := by decide +kernel
theorem d_Desk_init_85 : decode b_Desk_init 85 = .ok (.putfield 58, 3) := by decide +kernel
theorem d_Desk_init_88 : decode b_Desk_init 88 = .ok (.aload_n 0, 1) := by decide +kernel
theorem d_Desk_init_89 : decode b_Desk_init 89 = .ok (.getfield 11, 3) := by decide +kernel
theorem d_Desk_init_92 : decode b_Desk_init 92 = .ok (.iconst 0, 1) := by decide +kernel
theorem d_Desk_init_93 : decode b_Desk_init 93 = .ok (.new 9, 3) := by decide +kernel
theorem d_Desk_init_96 : decode b_Desk_init 96 = .ok (.dup, 1) := by decide +kernel
theorem d_Desk_init_97 : decode b_Desk_init 97 = .ok (.iconst 2, 1) := by decide +kernel
theorem d_Desk_init_98 : decode b_Desk_init 98 = .ok (.iconst 0, 1) := by decide +kernel
theorem d_Desk_init_99 : decode b_Desk_init 99 = .ok (.invokespecial 61, 3) := by decide +kernel
theorem d_Desk_init_102 : decode b_Desk_init 102 = .ok (.aastore, 1) := by decide +kernel
theorem d_Desk_init_103 : decode b_Desk_init 103 = .ok (.aload_n 0, 1) := by decide +kernel
theorem d_Desk_init_104 : decode b_Desk_init 104 = .ok (.getfield 11, 3) := by decide +kernel
theorem d_Desk_init_107 : decode b_Desk_init 107 = .ok (.iconst 1, 1) := by decide +kernel
theorem d_Desk_init_108 : decode b_Desk_init 108 = .ok (.new 9, 3) := by decide +kernel
theorem d_Desk_init_111 : decode b_Desk_init 111 = .ok (.dup, 1) := by decide +kernel
theorem d_Desk_init_112 : decode b_Desk_init 112 = .ok (.iconst 2, 1) := by decide +kernel
theorem d_Desk_init_113 : decode b_Desk_init 113 = .ok (.iconst 1, 1) := by decide +kernel
theorem d_Desk_init_114 : decode b_Desk_init 114 = .ok (.invokespecial 61, 3) := by decide +kernel
theorem d_Desk_init_117 : decode b_Desk_init 117 = .ok (.aastore, 1) := by decide +kernel
theorem d_Desk_init_118 : decode b_Desk_init 118 = .ok (.aload_n 0, 1) := by decide +kernel
theorem d_Desk_init_119 : decode b_Desk_init 119 = .ok (.getfield 11, 3) := by decide +kernel
theorem d_Desk_init_122 : decode b_Desk_init 122 = .ok (.iconst 2, 1) := by decide +kernel
theorem d_Desk_init_123 : decode b_Desk_init 123 = .ok (.new 9, 3) := by decide +kernel
theorem d_Desk_init_126 : decode b_Desk_init 126 = .ok (.dup, 1) := by decide +kernel
theorem d_Desk_init_127 : decode b_Desk_init 127 = .ok (.iconst 4, 1) := by decide +kernel
theorem d_Desk_init_128 : decode b_Desk_init 128 = .ok (.iconst 0, 1) := by decide +kernel
theorem d_Desk_init_129 : decode b_Desk_init 129 = .ok (.invokespecial 61, 3) := by decide +kernel
theorem d_Desk_init_132 : decode b_Desk_init 132 = .ok (.aastore, 1) := by decide +kernel
theorem d_Desk_init_133 : decode b_Desk_init 133 = .ok (.aload_n 0, 1) := by decide +kernel
theorem d_Desk_init_134 : decode b_Desk_init 134 = .ok (.getfield 11, 3) := by decide +kernel
theorem d_Desk_init_137 : decode b_Desk_init 137 = .ok (.iconst 3, 1) := by decide +kernel
theorem d_Desk_init_138 : decode b_Desk_init 138 = .ok (.new 9, 3) := by decide +kernel
theorem d_Desk_init_141 : decode b_Desk_init 141 = .ok (.dup, 1) := by decide +kernel
theorem d_Desk_init_142 : decode b_Desk_init 142 = .ok (.iconst 4, 1) := by decide +kernel
theorem d_Desk_init_143 : decode b_Desk_init 143 = .ok (.iconst 1, 1) := by decide +kernel
theorem d_Desk_init_144 : decode b_Desk_init 144 = .ok (.invokespecial 61, 3) := by decide +kernel
theorem d_Desk_init_147 : decode b_Desk_init 147 = .ok (.aastore, 1) := by decide +kernel
theorem d_Desk_init_148 : decode b_Desk_init 148 = .ok (.return_, 1) := by decide +kernel
theorem d_Desk_answerTo_0 : decode b_Desk_answerTo 0 = .ok (.aload_n 0, 1) := by decide +kernel
theorem d_Desk_answerTo_1 : decode b_Desk_answerTo 1 = .ok (.getfield 22, 3) := by decide +kernel
theorem d_Desk_answerTo_4 : decode b_Desk_answerTo 4 = .ok (.invokevirtual 64, 3) := by decide +kernel
theorem d_Desk_answerTo_7 : decode b_Desk_answerTo 7 = .ok (.aload_n 1, 1) := by decide +kernel
theorem d_Desk_answerTo_8 : decode b_Desk_answerTo 8 = .ok (.invokestatic 67, 3) := by decide +kernel
theorem d_Desk_answerTo_11 : decode b_Desk_answerTo 11 = .ok (.ifCond .ne 8, 3) := by decide +kernel
theorem d_Desk_answerTo_14 : decode b_Desk_answerTo 14 = .ok (.aload_n 0, 1) := by decide +kernel
theorem d_Desk_answerTo_15 : decode b_Desk_answerTo 15 = .ok (.getfield 22, 3) := by decide +kernel
theorem d_Desk_answerTo_18 : decode b_Desk_answerTo 18 = .ok (.areturn, 1) := by decide +kernel
theorem d_Desk_answerTo_19 : decode b_Desk_answerTo 19 = .ok (.aload_n 0, 1) := by decide +kernel
theorem d_Desk_answerTo_20 : decode b_Desk_answerTo 20 = .ok (.aload_n 1, 1) := by decide +kernel
theorem d_Desk_answerTo_21 : decode b_Desk_answerTo 21 = .ok (.putfield 26, 3) := by decide +kernel
theorem d_Desk_answerTo_24 : decode b_Desk_answerTo 24 = .ok (.aload_n 0, 1) := by decide +kernel
theorem d_Desk_answerTo_25 : decode b_Desk_answerTo 25 = .ok (.aload_n 1, 1) := by decide +kernel
theorem d_Desk_answerTo_26 : decode b_Desk_answerTo 26 = .ok (.iconst 4, 1) := by decide +kernel
theorem d_Desk_answerTo_27 : decode b_Desk_answerTo 27 = .ok (.invokevirtual 71, 3) := by decide +kernel
theorem d_Desk_answerTo_30 : decode b_Desk_answerTo 30 = .ok (.putfield 33, 3) := by decide +kernel
theorem d_Desk_answerTo_33 : decode b_Desk_answerTo 33 = .ok (.aload_n 0, 1) := by decide +kernel
theorem d_Desk_answerTo_34 : decode b_Desk_answerTo 34 = .ok (.aload_n 1, 1) := by decide +kernel
theorem d_Desk_answerTo_35 : decode b_Desk_answerTo 35 = .ok (.iconst 5, 1) := by decide +kernel
theorem d_Desk_answerTo_36 : decode b_Desk_answerTo 36 = .ok (.invokevirtual 71, 3) := by decide +kernel
theorem d_Desk_answerTo_39 : decode b_Desk_answerTo 39 = .ok (.putfield 36, 3) := by decide +kernel
theorem d_Desk_answerTo_42 : decode b_Desk_answerTo 42 = .ok (.aload_n 0, 1) := by decide +kernel
theorem d_Desk_answerTo_43 : decode b_Desk_answerTo 43 = .ok (.bipush 6, 2) := by decide +kernel
theorem d_Desk_answerTo_45 : decode b_Desk_answerTo 45 = .ok (.putfield 29, 3) := by decide +kernel
theorem d_Desk_answerTo_48 : decode b_Desk_answerTo 48 = .ok (.aload_n 0, 1) := by decide +kernel
theorem d_Desk_answerTo_49 : decode b_Desk_answerTo 49 = .ok (.getfield 36, 3) := by decide +kernel
theorem d_Desk_answerTo_52 : decode b_Desk_answerTo 52 = .ok (.bipush 12, 2) := by decide +kernel
theorem d_Desk_answerTo_54 : decode b_Desk_answerTo 54 = .ok (.if_icmp .eq 23, 3) := by decide +kernel
theorem d_Desk_answerTo_57 : decode b_Desk_answerTo 57 = .ok (.aload_n 0, 1) := by decide +kernel
theorem d_Desk_answerTo_58 : decode b_Desk_answerTo 58 = .ok (.getfield 36, 3) := by decide +kernel
theorem d_Desk_answerTo_61 : decode b_Desk_answerTo 61 = .ok (.bipush 15, 2) := by decide +kernel
theorem d_Desk_answerTo_63 : decode b_Desk_answerTo 63 = .ok (.if_icmp .eq 14, 3) := by decide +kernel
theorem d_Desk_answerTo_66 : decode b_Desk_answerTo 66 = .ok (.aload_n 0, 1) := by decide +kernel
theorem d_Desk_answerTo_67 : decode b_Desk_answerTo 67 = .ok (.bipush 96, 2) := by decide +kernel
theorem d_Desk_answerTo_69 : decode b_Desk_answerTo 69 = .ok (.bipush 9, 2) := by decide +kernel
theorem d_Desk_answerTo_71 : decode b_Desk_answerTo 71 = .ok (.invokevirtual 74, 3) := by decide +kernel
theorem d_Desk_answerTo_74 : decode b_Desk_answerTo 74 = .ok (.goto 54, 3) := by decide +kernel
theorem d_Desk_answerTo_77 : decode b_Desk_answerTo 77 = .ok (.aload_n 0, 1) := by decide +kernel
theorem d_Desk_answerTo_78 : decode b_Desk_answerTo 78 = .ok (.invokevirtual 77, 3) := by decide +kernel
theorem d_Desk_answerTo_81 : decode b_Desk_answerTo 81 = .ok (.ifCond .eq 33, 3) := by decide +kernel
theorem d_Desk_answerTo_84 : decode b_Desk_answerTo 84 = .ok (.aload_n 0, 1) := by decide +kernel
theorem d_Desk_answerTo_85 : decode b_Desk_answerTo 85 = .ok (.getfield 36, 3) := by decide +kernel
theorem d_Desk_answerTo_88 : decode b_Desk_answerTo 88 = .ok (.bipush 15, 2) := by decide +kernel
theorem d_Desk_answerTo_90 : decode b_Desk_answerTo 90 = .ok (.if_icmp .ne 10, 3) := by decide +kernel
theorem d_Desk_answerTo_93 : decode b_Desk_answerTo 93 = .ok (.aload_n 0, 1) := by decide +kernel
theorem d_Desk_answerTo_94 : decode b_Desk_answerTo 94 = .ok (.invokevirtual 81, 3) := by decide +kernel
theorem d_Desk_answerTo_97 : decode b_Desk_answerTo 97 = .ok (.ifCond .eq 17, 3) := by decide +kernel
theorem d_Desk_answerTo_100 : decode b_Desk_answerTo 100 = .ok (.aload_n 0, 1) := by decide +kernel
theorem d_Desk_answerTo_101 : decode b_Desk_answerTo 101 = .ok (.getfield 29, 3) := by decide +kernel
theorem d_Desk_answerTo_104 : decode b_Desk_answerTo 104 = .ok (.aload_n 0, 1) := by decide +kernel
theorem d_Desk_answerTo_105 : decode b_Desk_answerTo 105 = .ok (.getfield 26, 3) := by decide +kernel
theorem d_Desk_answerTo_108 : decode b_Desk_answerTo 108 = .ok (.invokevirtual 84, 3) := by decide +kernel
theorem d_Desk_answerTo_111 : decode b_Desk_answerTo 111 = .ok (.if_icmp .eq 13, 3) := by decide +kernel
theorem d_Desk_answerTo_114 : decode b_Desk_answerTo 114 = .ok (.aload_n 0, 1) := by decide +kernel
theorem d_Desk_answerTo_115 : decode b_Desk_answerTo 115 = .ok (.bipush 96, 2) := by decide +kernel
theorem d_Desk_answerTo_117 : decode b_Desk_answerTo 117 = .ok (.iconst 4, 1) := by decide +kernel
theorem d_Desk_answerTo_118 : decode b_Desk_answerTo 118 = .ok (.invokevirtual 74, 3) := by decide +kernel
theorem d_Desk_answerTo_121 : decode b_Desk_answerTo 121 = .ok (.goto 7, 3) := by decide +kernel
theorem d_Desk_answerTo_124 : decode b_Desk_answerTo 124 = .ok (.aload_n 0, 1) := by decide +kernel
theorem d_Desk_answerTo_125 : decode b_Desk_answerTo 125 = .ok (.invokevirtual 88, 3) := by decide +kernel
theorem d_Desk_answerTo_128 : decode b_Desk_answerTo 128 = .ok (.aload_n 0, 1) := by decide +kernel
theorem d_Desk_answerTo_129 : decode b_Desk_answerTo 129 = .ok (.getfield 22, 3) := by decide +kernel
theorem d_Desk_answerTo_132 : decode b_Desk_answerTo 132 = .ok (.areturn, 1) := by decide +kernel
theorem d_Desk_isForDesk_0 : decode b_Desk_isForDesk 0 = .ok (.aload_n 0, 1) := by decide +kernel
theorem d_Desk_isForDesk_1 : decode b_Desk_isForDesk 1 = .ok (.invokevirtual 84, 3) := by decide +kernel
theorem d_Desk_isForDesk_4 : decode b_Desk_isForDesk 4 = .ok (.bipush 6, 2) := by decide +kernel
theorem d_Desk_isForDesk_6 : decode b_Desk_isForDesk 6 = .ok (.if_icmp .lt 33, 3) := by decide +kernel
theorem d_Desk_isForDesk_9 : decode b_Desk_isForDesk 9 = .ok (.aload_n 0, 1) := by decide +kernel
theorem d_Desk_isForDesk_10 : decode b_Desk_isForDesk 10 = .ok (.iconst 0, 1) := by decide +kernel
theorem d_Desk_isForDesk_11 : decode b_Desk_isForDesk 11 = .ok (.invokevirtual 71, 3) := by decide +kernel
theorem d_Desk_isForDesk_14 : decode b_Desk_isForDesk 14 = .ok (.iconst 1, 1) := by decide +kernel
theorem d_Desk_isForDesk_15 : decode b_Desk_isForDesk 15 = .ok (.if_icmp .ne 24, 3) := by decide +kernel
theorem d_Desk_isForDesk_18 : decode b_Desk_isForDesk 18 = .ok (.aload_n 0, 1) := by decide +kernel
theorem d_Desk_isForDesk_19 : decode b_Desk_isForDesk 19 = .ok (.iconst 1, 1) := by decide +kernel
theorem d_Desk_isForDesk_20 : decode b_Desk_isForDesk 20 = .ok (.invokevirtual 71, 3) := by decide +kernel
theorem d_Desk_isForDesk_23 : decode b_Desk_isForDesk 23 = .ok (.iconst 4, 1) := by decide +kernel
theorem d_Desk_isForDesk_24 : decode b_Desk_isForDesk 24 = .ok (.if_icmp .ne 15, 3) := by decide +kernel
theorem d_Desk_isForDesk_27 : decode b_Desk_isForDesk 27 = .ok (.aload_n 0, 1) := by decide +kernel
theorem d_Desk_isForDesk_28 : decode b_Desk_isForDesk 28 = .ok (.iconst 2, 1) := by decide +kernel
theorem d_Desk_isForDesk_29 : decode b_Desk_isForDesk 29 = .ok (.invokevirtual 71, 3) := by decide +kernel
theorem d_Desk_isForDesk_32 : decode b_Desk_isForDesk 32 = .ok (.ifCond .ne 7, 3) := by decide +kernel
theorem d_Desk_isForDesk_35 : decode b_Desk_isForDesk 35 = .ok (.iconst 1, 1) := by decide +kernel
theorem d_Desk_isForDesk_36 : decode b_Desk_isForDesk 36 = .ok (.goto 4, 3) := by decide +kernel
theorem d_Desk_isForDesk_39 : decode b_Desk_isForDesk 39 = .ok (.iconst 0, 1) := by decide +kernel
theorem d_Desk_isForDesk_40 : decode b_Desk_isForDesk 40 = .ok (.ireturn, 1) := by decide +kernel
theorem d_Desk_begin_0 : decode b_Desk_begin 0 = .ok (.aload_n 0, 1) := by decide +kernel
theorem d_Desk_begin_1 : decode b_Desk_begin 1 = .ok (.getfield 22, 3) := by decide +kernel
theorem d_Desk_begin_4 : decode b_Desk_begin 4 = .ok (.iconst 1, 1) := by decide +kernel
theorem d_Desk_begin_5 : decode b_Desk_begin 5 = .ok (.invokevirtual 98, 3) := by decide +kernel
theorem d_Desk_begin_8 : decode b_Desk_begin 8 = .ok (.aload_n 0, 1) := by decide +kernel
theorem d_Desk_begin_9 : decode b_Desk_begin 9 = .ok (.getfield 22, 3) := by decide +kernel
theorem d_Desk_begin_12 : decode b_Desk_begin 12 = .ok (.iconst 0, 1) := by decide +kernel
theorem d_Desk_begin_13 : decode b_Desk_begin 13 = .ok (.invokevirtual 98, 3) := by decide +kernel
theorem d_Desk_begin_16 : decode b_Desk_begin 16 = .ok (.aload_n 0, 1) := by decide +kernel
theorem d_Desk_begin_17 : decode b_Desk_begin 17 = .ok (.getfield 22, 3) := by decide +kernel
theorem d_Desk_begin_20 : decode b_Desk_begin 20 = .ok (.iload_n 1, 1) := by decide +kernel
theorem d_Desk_begin_21 : decode b_Desk_begin 21 = .ok (.invokevirtual 98, 3) := by decide +kernel
theorem d_Desk_begin_24 : decode b_Desk_begin 24 = .ok (.aload_n 0, 1) := by decide +kernel
theorem d_Desk_begin_25 : decode b_Desk_begin 25 = .ok (.getfield 22, 3) := by decide +kernel
theorem d_Desk_begin_28 : decode b_Desk_begin 28 = .ok (.aload_n 0, 1) := by decide +kernel
theorem d_Desk_begin_29 : decode b_Desk_begin 29 = .ok (.getfield 33, 3) := by decide +kernel
theorem d_Desk_begin_32 : decode b_Desk_begin 32 = .ok (.invokevirtual 98, 3) := by decide +kernel
theorem d_Desk_begin_35 : decode b_Desk_begin 35 = .ok (.aload_n 0, 1) := by decide +kernel
theorem d_Desk_begin_36 : decode b_Desk_begin 36 = .ok (.getfield 22, 3) := by decide +kernel
theorem d_Desk_begin_39 : decode b_Desk_begin 39 = .ok (.iload_n 2, 1) := by decide +kernel
theorem d_Desk_begin_40 : decode b_Desk_begin 40 = .ok (.invokevirtual 98, 3) := by decide +kernel
theorem d_Desk_begin_43 : decode b_Desk_begin 43 = .ok (.return_, 1) := by decide +kernel
theorem d_Desk_takesPlace_0 : decode b_Desk_takesPlace 0 = .ok (.aload_n 0, 1) := by decide +kernel
theorem d_Desk_takesPlace_1 : decode b_Desk_takesPlace 1 = .ok (.bipush 12, 2) := by decide +kernel
theorem d_Desk_takesPlace_3 : decode b_Desk_takesPlace 3 = .ok (.invokevirtual 110, 3) := by decide +kernel
theorem d_Desk_takesPlace_6 : decode b_Desk_takesPlace 6 = .ok (.ifCond .ne 5, 3) := by decide +kernel
theorem d_Desk_takesPlace_9 : decode b_Desk_takesPlace 9 = .ok (.iconst 0, 1) := by decide +kernel
theorem d_Desk_takesPlace_10 : decode b_Desk_takesPlace 10 = .ok (.ireturn, 1) := by decide +kernel
theorem d_Desk_takesPlace_11 : decode b_Desk_takesPlace 11 = .ok (.aload_n 0, 1) := by decide +kernel
theorem d_Desk_takesPlace_12 : decode b_Desk_takesPlace 12 = .ok (.aload_n 0, 1) := by decide +kernel
theorem d_Desk_takesPlace_13 : decode b_Desk_takesPlace 13 = .ok (.invokevirtual 114, 3) := by decide +kernel
theorem d_Desk_takesPlace_16 : decode b_Desk_takesPlace 16 = .ok (.putfield 39, 3) := by decide +kernel
theorem d_Desk_takesPlace_19 : decode b_Desk_takesPlace 19 = .ok (.aload_n 0, 1) := by decide +kernel
theorem d_Desk_takesPlace_20 : decode b_Desk_takesPlace 20 = .ok (.bipush 25, 2) := by decide +kernel
theorem d_Desk_takesPlace_22 : decode b_Desk_takesPlace 22 = .ok (.invokevirtual 110, 3) := by decide +kernel
theorem d_Desk_takesPlace_25 : decode b_Desk_takesPlace 25 = .ok (.ifCond .ne 5, 3) := by decide +kernel
theorem d_Desk_takesPlace_28 : decode b_Desk_takesPlace 28 = .ok (.iconst 0, 1) := by decide +kernel
theorem d_Desk_takesPlace_29 : decode b_Desk_takesPlace 29 = .ok (.ireturn, 1) := by decide +kernel
theorem d_Desk_takesPlace_30 : decode b_Desk_takesPlace 30 = .ok (.aload_n 0, 1) := by decide +kernel
theorem d_Desk_takesPlace_31 : decode b_Desk_takesPlace 31 = .ok (.aload_n 0, 1) := by decide +kernel
theorem d_Desk_takesPlace_32 : decode b_Desk_takesPlace 32 = .ok (.invokevirtual 117, 3) := by decide +kernel
theorem d_Desk_takesPlace_35 : decode b_Desk_takesPlace 35 = .ok (.putfield 46, 3) := by decide +kernel
theorem d_Desk_takesPlace_38 : decode b_Desk_takesPlace 38 = .ok (.aload_n 0, 1) := by decide +kernel
theorem d_Desk_takesPlace_39 : decode b_Desk_takesPlace 39 = .ok (.aload_n 0, 1) := by decide +kernel
theorem d_Desk_takesPlace_40 : decode b_Desk_takesPlace 40 = .ok (.bipush 41, 2) := by decide +kernel
theorem d_Desk_takesPlace_42 : decode b_Desk_takesPlace 42 = .ok (.invokevirtual 110, 3) := by decide +kernel
theorem d_Desk_takesPlace_45 : decode b_Desk_takesPlace 45 = .ok (.ifCond .eq 10, 3) := by decide +kernel
theorem d_Desk_takesPlace_48 : decode b_Desk_takesPlace 48 = .ok (.aload_n 0, 1) := by decide +kernel
theorem d_Desk_takesPlace_49 : decode b_Desk_takesPlace 49 = .ok (.invokevirtual 117, 3) := by decide +kernel
theorem d_Desk_takesPlace_52 : decode b_Desk_takesPlace 52 = .ok (.goto 4, 3) := by decide +kernel
theorem d_Desk_takesPlace_55 : decode b_Desk_takesPlace 55 = .ok (.iconst (-1), 1) := by decide +kernel
theorem d_Desk_takesPlace_56 : decode b_Desk_takesPlace 56 = .ok (.putfield 49, 3) := by decide +kernel
theorem d_Desk_takesPlace_59 : decode b_Desk_takesPlace 59 = .ok (.iconst 1, 1) := by decide +kernel
theorem d_Desk_takesPlace_60 : decode b_Desk_takesPlace 60 = .ok (.ireturn, 1) := by decide +kernel
theorem d_Desk_follows_0 : decode b_Desk_follows 0 = .ok (.aload_n 0, 1) := by decide +kernel
theorem d_Desk_follows_1 : decode b_Desk_follows 1 = .ok (.getfield 26, 3) := by decide +kernel
theorem d_Desk_follows_4 : decode b_Desk_follows 4 = .ok (.aload_n 0, 1) := by decide +kernel
theorem d_Desk_follows_5 : decode b_Desk_follows 5 = .ok (.getfield 29, 3) := by decide +kernel
theorem d_Desk_follows_8 : decode b_Desk_follows 8 = .ok (.invokevirtual 71, 3) := by decide +kernel
theorem d_Desk_follows_11 : decode b_Desk_follows 11 = .ok (.iload_n 1, 1) := by decide +kernel
theorem d_Desk_follows_12 : decode b_Desk_follows 12 = .ok (.if_icmp .eq 5, 3) := by decide +kernel
theorem d_Desk_follows_15 : decode b_Desk_follows 15 = .ok (.iconst 0, 1) := by decide +kernel
theorem d_Desk_follows_16 : decode b_Desk_follows 16 = .ok (.ireturn, 1) := by decide +kernel
theorem d_Desk_follows_17 : decode b_Desk_follows 17 = .ok (.aload_n 0, 1) := by decide +kernel
theorem d_Desk_follows_18 : decode b_Desk_follows 18 = .ok (.dup, 1) := by decide +kernel
theorem d_Desk_follows_19 : decode b_Desk_follows 19 = .ok (.getfield 29, 3) := by decide +kernel
theorem d_Desk_follows_22 : decode b_Desk_follows 22 = .ok (.iconst 1, 1) := by decide +kernel
theorem d_Desk_follows_23 : decode b_Desk_follows 23 = .ok (.iadd, 1) := by decide +kernel
theorem d_Desk_follows_24 : decode b_Desk_follows 24 = .ok (.putfield 29, 3) := by decide +kernel
theorem d_Desk_follows_27 : decode b_Desk_follows 27 = .ok (.iconst 1, 1) := by decide +kernel
theorem d_Desk_follows_28 : decode b_Desk_follows 28 = .ok (.ireturn, 1) := by decide +kernel
theorem d_Desk_nextInt_0 : decode b_Desk_nextInt 0 = .ok (.iconst 0, 1) := by decide +kernel
theorem d_Desk_nextInt_1 : decode b_Desk_nextInt 1 = .ok (.istore_n 1, 1) := by decide +kernel
theorem d_Desk_nextInt_2 : decode b_Desk_nextInt 2 = .ok (.iconst 0, 1) := by decide +kernel
theorem d_Desk_nextInt_3 : decode b_Desk_nextInt 3 = .ok (.istore_n 2, 1) := by decide +kernel
theorem d_Desk_nextInt_4 : decode b_Desk_nextInt 4 = .ok (.iload_n 2, 1) := by decide +kernel
theorem d_Desk_nextInt_5 : decode b_Desk_nextInt 5 = .ok (.iconst 4, 1) := by decide +kernel
theorem d_Desk_nextInt_6 : decode b_Desk_nextInt 6 = .ok (.if_icmp .ge 28, 3) := by decide +kernel
theorem d_Desk_nextInt_9 : decode b_Desk_nextInt 9 = .ok (.iload_n 1, 1) := by decide +kernel
theorem d_Desk_nextInt_10 : decode b_Desk_nextInt 10 = .ok (.bipush 8, 2) := by decide +kernel
theorem d_Desk_nextInt_12 : decode b_Desk_nextInt 12 = .ok (.ishl, 1) := by decide +kernel
theorem d_Desk_nextInt_13 : decode b_Desk_nextInt 13 = .ok (.aload_n 0, 1) := by decide +kernel
theorem d_Desk_nextInt_14 : decode b_Desk_nextInt 14 = .ok (.getfield 26, 3) := by decide +kernel
theorem d_Desk_nextInt_17 : decode b_Desk_nextInt 17 = .ok (.aload_n 0, 1) := by decide +kernel
theorem d_Desk_nextInt_18 : decode b_Desk_nextInt 18 = .ok (.getfield 29, 3) := by decide +kernel
theorem d_Desk_nextInt_21 : decode b_Desk_nextInt 21 = .ok (.iload_n 2, 1) := by decide +kernel
theorem d_Desk_nextInt_22 : decode b_Desk_nextInt 22 = .ok (.iadd, 1) := by decide +kernel
theorem d_Desk_nextInt_23 : decode b_Desk_nextInt 23 = .ok (.invokevirtual 71, 3) := by decide +kernel
theorem d_Desk_nextInt_26 : decode b_Desk_nextInt 26 = .ok (.ior, 1) := by decide +kernel
theorem d_Desk_nextInt_27 : decode b_Desk_nextInt 27 = .ok (.istore_n 1, 1) := by decide +kernel
theorem d_Desk_nextInt_28 : decode b_Desk_nextInt 28 = .ok (.iinc 2 1, 3) := by decide +kernel
theorem d_Desk_nextInt_31 : decode b_Desk_nextInt 31 = .ok (.goto (-27), 3) := by decide +kernel
theorem d_Desk_nextInt_34 : decode b_Desk_nextInt 34 = .ok (.aload_n 0, 1) := by decide +kernel
theorem d_Desk_nextInt_35 : decode b_Desk_nextInt 35 = .ok (.dup, 1) := by decide +kernel
theorem d_Desk_nextInt_36 : decode b_Desk_nextInt 36 = .ok (.getfield 29, 3) := by decide +kernel
theorem d_Desk_nextInt_39 : decode b_Desk_nextInt 39 = .ok (.iconst 4, 1) := by decide +kernel
theorem d_Desk_nextInt_40 : decode b_Desk_nextInt 40 = .ok (.iadd, 1) := by decide +kernel
theorem d_Desk_nextInt_41 : decode b_Desk_nextInt 41 = .ok (.putfield 29, 3) := by decide +kernel
theorem d_Desk_nextInt_44 : decode b_Desk_nextInt 44 = .ok (.iload_n 1, 1) := by decide +kernel
theorem d_Desk_nextInt_45 : decode b_Desk_nextInt 45 = .ok (.ireturn, 1) := by decide +kernel
theorem d_Desk_nextByte_0 : decode b_Desk_nextByte 0 = .ok (.aload_n 0, 1) := by decide +kernel
theorem d_Desk_nextByte_1 : decode b_Desk_nextByte 1 = .ok (.getfield 26, 3) := by decide +kernel
theorem d_Desk_nextByte_4 : decode b_Desk_nextByte 4 = .ok (.aload_n 0, 1) := by decide +kernel
theorem d_Desk_nextByte_5 : decode b_Desk_nextByte 5 = .ok (.getfield 29, 3) := by decide +kernel
theorem d_Desk_nextByte_8 : decode b_Desk_nextByte 8 = .ok (.invokevirtual 71, 3) := by decide +kernel
theorem d_Desk_nextByte_11 : decode b_Desk_nextByte 11 = .ok (.istore_n 1, 1) := by decide +kernel
theorem d_Desk_nextByte_12 : decode b_Desk_nextByte 12 = .ok (.aload_n 0, 1) := by decide +kernel
theorem d_Desk_nextByte_13 : decode b_Desk_nextByte 13 = .ok (.dup, 1) := by decide +kernel
theorem d_Desk_nextByte_14 : decode b_Desk_nextByte 14 = .ok (.getfield 29, 3) := by decide +kernel
theorem d_Desk_nextByte_17 : decode b_Desk_nextByte 17 = .ok (.iconst 1, 1) := by decide +kernel
theorem d_Desk_nextByte_18 : decode b_Desk_nextByte 18 = .ok (.iadd, 1) := by decide +kernel
theorem d_Desk_nextByte_19 : decode b_Desk_nextByte 19 = .ok (.putfield 29, 3) := by decide +kernel
theorem d_Desk_nextByte_22 : decode b_Desk_nextByte 22 = .ok (.iload_n 1, 1) := by decide +kernel
theorem d_Desk_nextByte_23 : decode b_Desk_nextByte 23 = .ok (.ireturn, 1) := by decide +kernel
theorem d_Desk_takesWritten_0 : decode b_Desk_takesWritten 0 = .ok (.aload_n 0, 1) := by decide +kernel
theorem d_Desk_takesWritten_1 : decode b_Desk_takesWritten 1 = .ok (.bipush 62, 2) := by decide +kernel
theorem d_Desk_takesWritten_3 : decode b_Desk_takesWritten 3 = .ok (.invokevirtual 110, 3) := by decide +kernel
theorem d_Desk_takesWritten_6 : decode b_Desk_takesWritten 6 = .ok (.ifCond .ne 5, 3) := by decide +kernel
theorem d_Desk_takesWritten_9 : decode b_Desk_takesWritten 9 = .ok (.iconst 0, 1) := by decide +kernel
theorem d_Desk_takesWritten_10 : decode b_Desk_takesWritten 10 = .ok (.ireturn, 1) := by decide +kernel
theorem d_Desk_takesWritten_11 : decode b_Desk_takesWritten 11 = .ok (.aload_n 0, 1) := by decide +kernel
theorem d_Desk_takesWritten_12 : decode b_Desk_takesWritten 12 = .ok (.aload_n 0, 1) := by decide +kernel
theorem d_Desk_takesWritten_13 : decode b_Desk_takesWritten 13 = .ok (.invokevirtual 117, 3) := by decide +kernel
theorem d_Desk_takesWritten_16 : decode b_Desk_takesWritten 16 = .ok (.putfield 52, 3) := by decide +kernel
theorem d_Desk_takesWritten_19 : decode b_Desk_takesWritten 19 = .ok (.aload_n 0, 1) := by decide +kernel
theorem d_Desk_takesWritten_20 : decode b_Desk_takesWritten 20 = .ok (.getfield 52, 3) := by decide +kernel
theorem d_Desk_takesWritten_23 : decode b_Desk_takesWritten 23 = .ok (.bipush 68, 2) := by decide +kernel
theorem d_Desk_takesWritten_25 : decode b_Desk_takesWritten 25 = .ok (.if_icmp .ne 14, 3) := by decide +kernel
theorem d_Desk_takesWritten_28 : decode b_Desk_takesWritten 28 = .ok (.aload_n 0, 1) := by decide +kernel
theorem d_Desk_takesWritten_29 : decode b_Desk_takesWritten 29 = .ok (.aload_n 0, 1) := by decide +kernel
theorem d_Desk_takesWritten_30 : decode b_Desk_takesWritten 30 = .ok (.invokevirtual 114, 3) := by decide +kernel
theorem d_Desk_takesWritten_33 : decode b_Desk_takesWritten 33 = .ok (.putfield 55, 3) := by decide +kernel
theorem d_Desk_takesWritten_36 : decode b_Desk_takesWritten 36 = .ok (.goto 33, 3) := by decide +kernel
theorem d_Desk_takesWritten_39 : decode b_Desk_takesWritten 39 = .ok (.aload_n 0, 1) := by decide +kernel
theorem d_Desk_takesWritten_40 : decode b_Desk_takesWritten 40 = .ok (.getfield 52, 3) := by decide +kernel
theorem d_Desk_takesWritten_43 : decode b_Desk_takesWritten 43 = .ok (.sipush 145, 3) := by decide +kernel
theorem d_Desk_takesWritten_46 : decode b_Desk_takesWritten 46 = .ok (.if_icmp .ne 14, 3) := by decide +kernel
theorem d_Desk_takesWritten_49 : decode b_Desk_takesWritten 49 = .ok (.aload_n 0, 1) := by decide +kernel
theorem d_Desk_takesWritten_50 : decode b_Desk_takesWritten 50 = .ok (.aload_n 0, 1) := by decide +kernel
theorem d_Desk_takesWritten_51 : decode b_Desk_takesWritten 51 = .ok (.invokevirtual 117, 3) := by decide +kernel
theorem d_Desk_takesWritten_54 : decode b_Desk_takesWritten 54 = .ok (.putfield 55, 3) := by decide +kernel
theorem d_Desk_takesWritten_57 : decode b_Desk_takesWritten 57 = .ok (.goto 12, 3) := by decide +kernel
theorem d_Desk_takesWritten_60 : decode b_Desk_takesWritten 60 = .ok (.aload_n 0, 1) := by decide +kernel
theorem d_Desk_takesWritten_61 : decode b_Desk_takesWritten 61 = .ok (.getfield 52, 3) := by decide +kernel
theorem d_Desk_takesWritten_64 : decode b_Desk_takesWritten 64 = .ok (.ifCond .eq 5, 3) := by decide +kernel
theorem d_Desk_takesWritten_67 : decode b_Desk_takesWritten 67 = .ok (.iconst 0, 1) := by decide +kernel
theorem d_Desk_takesWritten_68 : decode b_Desk_takesWritten 68 = .ok (.ireturn, 1) := by decide +kernel
theorem d_Desk_takesWritten_69 : decode b_Desk_takesWritten 69 = .ok (.aload_n 0, 1) := by decide +kernel
theorem d_Desk_takesWritten_70 : decode b_Desk_takesWritten 70 = .ok (.bipush 63, 2) := by decide +kernel
theorem d_Desk_takesWritten_72 : decode b_Desk_takesWritten 72 = .ok (.invokevirtual 110, 3) := by decide +kernel
theorem d_Desk_takesWritten_75 : decode b_Desk_takesWritten 75 = .ok (.ifCond .ne 5, 3) := by decide +kernel
theorem d_Desk_takesWritten_78 : decode b_Desk_takesWritten 78 = .ok (.iconst 0, 1) := by decide +kernel
theorem d_Desk_takesWritten_79 : decode b_Desk_takesWritten 79 = .ok (.ireturn, 1) := by decide +kernel
theorem d_Desk_takesWritten_80 : decode b_Desk_takesWritten 80 = .ok (.aload_n 0, 1) := by decide +kernel
theorem d_Desk_takesWritten_81 : decode b_Desk_takesWritten 81 = .ok (.aload_n 0, 1) := by decide +kernel
theorem d_Desk_takesWritten_82 : decode b_Desk_takesWritten 82 = .ok (.bipush 73, 2) := by decide +kernel
theorem d_Desk_takesWritten_84 : decode b_Desk_takesWritten 84 = .ok (.invokevirtual 110, 3) := by decide +kernel
theorem d_Desk_takesWritten_87 : decode b_Desk_takesWritten 87 = .ok (.ifCond .eq 10, 3) := by decide +kernel
theorem d_Desk_takesWritten_90 : decode b_Desk_takesWritten 90 = .ok (.aload_n 0, 1) := by decide +kernel
theorem d_Desk_takesWritten_91 : decode b_Desk_takesWritten 91 = .ok (.invokevirtual 117, 3) := by decide +kernel
theorem d_Desk_takesWritten_94 : decode b_Desk_takesWritten 94 = .ok (.goto 5, 3) := by decide +kernel
theorem d_Desk_takesWritten_97 : decode b_Desk_takesWritten 97 = .ok (.bipush 16, 2) := by decide +kernel
theorem d_Desk_takesWritten_99 : decode b_Desk_takesWritten 99 = .ok (.putfield 58, 3) := by decide +kernel
theorem d_Desk_takesWritten_102 : decode b_Desk_takesWritten 102 = .ok (.aload_n 0, 1) := by decide +kernel
theorem d_Desk_takesWritten_103 : decode b_Desk_takesWritten 103 = .ok (.getfield 58, 3) := by decide +kernel
theorem d_Desk_takesWritten_106 : decode b_Desk_takesWritten 106 = .ok (.iconst 1, 1) := by decide +kernel
theorem d_Desk_takesWritten_107 : decode b_Desk_takesWritten 107 = .ok (.if_icmp .lt 16, 3) := by decide +kernel
theorem d_Desk_takesWritten_110 : decode b_Desk_takesWritten 110 = .ok (.aload_n 0, 1) := by decide +kernel
theorem d_Desk_takesWritten_111 : decode b_Desk_takesWritten 111 = .ok (.getfield 58, 3) := by decide +kernel
theorem d_Desk_takesWritten_114 : decode b_Desk_takesWritten 114 = .ok (.bipush 16, 2) := by decide +kernel
theorem d_Desk_takesWritten_116 : decode b_Desk_takesWritten 116 = .ok (.if_icmp .gt 7, 3) := by decide +kernel
theorem d_Desk_takesWritten_119 : decode b_Desk_takesWritten 119 = .ok (.iconst 1, 1) := by decide +kernel
theorem d_Desk_takesWritten_120 : decode b_Desk_takesWritten 120 = .ok (.goto 4, 3) := by decide +kernel
theorem d_Desk_takesWritten_123 : decode b_Desk_takesWritten 123 = .ok (.iconst 0, 1) := by decide +kernel
theorem d_Desk_takesWritten_124 : decode b_Desk_takesWritten 124 = .ok (.ireturn, 1) := by decide +kernel
theorem d_Desk_answerWellFormed_0 : decode b_Desk_answerWellFormed 0 = .ok (.aload_n 0, 1) := by decide +kernel
theorem d_Desk_answerWellFormed_1 : decode b_Desk_answerWellFormed 1 = .ok (.aload_n 0, 1) := by decide +kernel
theorem d_Desk_answerWellFormed_2 : decode b_Desk_answerWellFormed 2 = .ok (.aload_n 0, 1) := by decide +kernel
theorem d_Desk_answerWellFormed_3 : decode b_Desk_answerWellFormed 3 = .ok (.getfield 39, 3) := by decide +kernel
theorem d_Desk_answerWellFormed_6 : decode b_Desk_answerWellFormed 6 = .ok (.invokevirtual 91, 3) := by decide +kernel
theorem d_Desk_answerWellFormed_9 : decode b_Desk_answerWellFormed 9 = .ok (.putfield 42, 3) := by decide +kernel
theorem d_Desk_answerWellFormed_12 : decode b_Desk_answerWellFormed 12 = .ok (.aload_n 0, 1) := by decide +kernel
theorem d_Desk_answerWellFormed_13 : decode b_Desk_answerWellFormed 13 = .ok (.invokevirtual 95, 3) := by decide +kernel
theorem d_Desk_answerWellFormed_16 : decode b_Desk_answerWellFormed 16 = .ok (.istore_n 1, 1) := by decide +kernel
theorem d_Desk_answerWellFormed_17 : decode b_Desk_answerWellFormed 17 = .ok (.iload_n 1, 1) := by decide +kernel
theorem d_Desk_answerWellFormed_18 : decode b_Desk_answerWellFormed 18 = .ok (.ifCond .eq 60, 3) := by decide +kernel
theorem d_Desk_answerWellFormed_21 : decode b_Desk_answerWellFormed 21 = .ok (.aload_n 0, 1) := by decide +kernel
theorem d_Desk_answerWellFormed_22 : decode b_Desk_answerWellFormed 22 = .ok (.bipush 80, 2) := by decide +kernel
theorem d_Desk_answerWellFormed_24 : decode b_Desk_answerWellFormed 24 = .ok (.aload_n 0, 1) := by decide +kernel
theorem d_Desk_answerWellFormed_25 : decode b_Desk_answerWellFormed 25 = .ok (.getfield 36, 3) := by decide +kernel
theorem d_Desk_answerWellFormed_28 : decode b_Desk_answerWellFormed 28 = .ok (.invokevirtual 74, 3) := by decide +kernel
theorem d_Desk_answerWellFormed_31 : decode b_Desk_answerWellFormed 31 = .ok (.aload_n 0, 1) := by decide +kernel
theorem d_Desk_answerWellFormed_32 : decode b_Desk_answerWellFormed 32 = .ok (.getfield 22, 3) := by decide +kernel
theorem d_Desk_answerWellFormed_35 : decode b_Desk_answerWellFormed 35 = .ok (.sipush 145, 3) := by decide +kernel
theorem d_Desk_answerWellFormed_38 : decode b_Desk_answerWellFormed 38 = .ok (.invokevirtual 98, 3) := by decide +kernel
theorem d_Desk_answerWellFormed_41 : decode b_Desk_answerWellFormed 41 = .ok (.aload_n 0, 1) := by decide +kernel
theorem d_Desk_answerWellFormed_42 : decode b_Desk_answerWellFormed 42 = .ok (.getfield 22, 3) := by decide +kernel
theorem d_Desk_answerWellFormed_45 : decode b_Desk_answerWellFormed 45 = .ok (.iload_n 1, 1) := by decide +kernel
theorem d_Desk_answerWellFormed_46 : decode b_Desk_answerWellFormed 46 = .ok (.sipush 256, 3) := by decide +kernel
theorem d_Desk_answerWellFormed_49 : decode b_Desk_answerWellFormed 49 = .ok (.idiv, 1) := by decide +kernel
theorem d_Desk_answerWellFormed_50 : decode b_Desk_answerWellFormed 50 = .ok (.invokevirtual 98, 3) := by decide +kernel
theorem d_Desk_answerWellFormed_53 : decode b_Desk_answerWellFormed 53 = .ok (.aload_n 0, 1) := by decide +kernel
theorem d_Desk_answerWellFormed_54 : decode b_Desk_answerWellFormed 54 = .ok (.getfield 22, 3) := by decide +kernel
theorem d_Desk_answerWellFormed_57 : decode b_Desk_answerWellFormed 57 = .ok (.sipush 145, 3) := by decide +kernel
theorem d_Desk_answerWellFormed_60 : decode b_Desk_answerWellFormed 60 = .ok (.invokevirtual 98, 3) := by decide +kernel
theorem d_Desk_answerWellFormed_63 : decode b_Desk_answerWellFormed 63 = .ok (.aload_n 0, 1) := by decide +kernel
theorem d_Desk_answerWellFormed_64 : decode b_Desk_answerWellFormed 64 = .ok (.getfield 22, 3) := by decide +kernel
theorem d_Desk_answerWellFormed_67 : decode b_Desk_answerWellFormed 67 = .ok (.iload_n 1, 1) := by decide +kernel
theorem d_Desk_answerWellFormed_68 : decode b_Desk_answerWellFormed 68 = .ok (.sipush 256, 3) := by decide +kernel
theorem d_Desk_answerWellFormed_71 : decode b_Desk_answerWellFormed 71 = .ok (.irem, 1) := by decide +kernel
theorem d_Desk_answerWellFormed_72 : decode b_Desk_answerWellFormed 72 = .ok (.invokevirtual 98, 3) := by decide +kernel
theorem d_Desk_answerWellFormed_75 : decode b_Desk_answerWellFormed 75 = .ok (.goto 61, 3) := by decide +kernel
theorem d_Desk_answerWellFormed_78 : decode b_Desk_answerWellFormed 78 = .ok (.aload_n 0, 1) := by decide +kernel
theorem d_Desk_answerWellFormed_79 : decode b_Desk_answerWellFormed 79 = .ok (.getfield 36, 3) := by decide +kernel
theorem d_Desk_answerWellFormed_82 : decode b_Desk_answerWellFormed 82 = .ok (.bipush 15, 2) := by decide +kernel
theorem d_Desk_answerWellFormed_84 : decode b_Desk_answerWellFormed 84 = .ok (.if_icmp .ne 18, 3) := by decide +kernel
theorem d_Desk_answerWellFormed_87 : decode b_Desk_answerWellFormed 87 = .ok (.aload_n 0, 1) := by decide +kernel
theorem d_Desk_answerWellFormed_88 : decode b_Desk_answerWellFormed 88 = .ok (.invokevirtual 101, 3) := by decide +kernel
theorem d_Desk_answerWellFormed_91 : decode b_Desk_answerWellFormed 91 = .ok (.aload_n 0, 1) := by decide +kernel
theorem d_Desk_answerWellFormed_92 : decode b_Desk_answerWellFormed 92 = .ok (.bipush 32, 2) := by decide +kernel
theorem d_Desk_answerWellFormed_94 : decode b_Desk_answerWellFormed 94 = .ok (.bipush 15, 2) := by decide +kernel
theorem d_Desk_answerWellFormed_96 : decode b_Desk_answerWellFormed 96 = .ok (.invokevirtual 74, 3) := by decide +kernel
theorem d_Desk_answerWellFormed_99 : decode b_Desk_answerWellFormed 99 = .ok (.goto 37, 3) := by decide +kernel
theorem d_Desk_answerWellFormed_102 : decode b_Desk_answerWellFormed 102 = .ok (.aload_n 0, 1) := by decide +kernel
theorem d_Desk_answerWellFormed_103 : decode b_Desk_answerWellFormed 103 = .ok (.bipush 48, 2) := by decide +kernel
theorem d_Desk_answerWellFormed_105 : decode b_Desk_answerWellFormed 105 = .ok (.bipush 12, 2) := by decide +kernel
theorem d_Desk_answerWellFormed_107 : decode b_Desk_answerWellFormed 107 = .ok (.invokevirtual 74, 3) := by decide +kernel
theorem d_Desk_answerWellFormed_110 : decode b_Desk_answerWellFormed 110 = .ok (.aload_n 0, 1) := by decide +kernel
theorem d_Desk_answerWellFormed_111 : decode b_Desk_answerWellFormed 111 = .ok (.invokevirtual 104, 3) := by decide +kernel
theorem d_Desk_answerWellFormed_114 : decode b_Desk_answerWellFormed 114 = .ok (.aload_n 0, 1) := by decide +kernel
theorem d_Desk_answerWellFormed_115 : decode b_Desk_answerWellFormed 115 = .ok (.getfield 22, 3) := by decide +kernel
theorem d_Desk_answerWellFormed_118 : decode b_Desk_answerWellFormed 118 = .ok (.bipush 62, 2) := by decide +kernel
theorem d_Desk_answerWellFormed_120 : decode b_Desk_answerWellFormed 120 = .ok (.invokevirtual 98, 3) := by decide +kernel
theorem d_Desk_answerWellFormed_123 : decode b_Desk_answerWellFormed 123 = .ok (.aload_n 0, 1) := by decide +kernel
theorem d_Desk_answerWellFormed_124 : decode b_Desk_answerWellFormed 124 = .ok (.invokevirtual 107, 3) := by decide +kernel
theorem d_Desk_answerWellFormed_127 : decode b_Desk_answerWellFormed 127 = .ok (.aload_n 0, 1) := by decide +kernel
theorem d_Desk_answerWellFormed_128 : decode b_Desk_answerWellFormed 128 = .ok (.getfield 22, 3) := by decide +kernel
theorem d_Desk_answerWellFormed_131 : decode b_Desk_answerWellFormed 131 = .ok (.bipush 63, 2) := by decide +kernel
theorem d_Desk_answerWellFormed_133 : decode b_Desk_answerWellFormed 133 = .ok (.invokevirtual 98, 3) := by decide +kernel
theorem d_Desk_answerWellFormed_136 : decode b_Desk_answerWellFormed 136 = .ok (.return_, 1) := by decide +kernel
theorem d_Desk_thingOf_0 : decode b_Desk_thingOf 0 = .ok (.iconst 0, 1) := by decide +kernel
theorem d_Desk_thingOf_1 : decode b_Desk_thingOf 1 = .ok (.istore_n 2, 1) := by decide +kernel
theorem d_Desk_thingOf_2 : decode b_Desk_thingOf 2 = .ok (.iload_n 2, 1) := by decide +kernel
theorem d_Desk_thingOf_3 : decode b_Desk_thingOf 3 = .ok (.aload_n 0, 1) := by decide +kernel
theorem d_Desk_thingOf_4 : decode b_Desk_thingOf 4 = .ok (.getfield 11, 3) := by decide +kernel
theorem d_Desk_thingOf_7 : decode b_Desk_thingOf 7 = .ok (.arraylength, 1) := by decide +kernel
theorem d_Desk_thingOf_8 : decode b_Desk_thingOf 8 = .ok (.if_icmp .ge 29, 3) := by decide +kernel
theorem d_Desk_thingOf_11 : decode b_Desk_thingOf 11 = .ok (.aload_n 0, 1) := by decide +kernel
theorem d_Desk_thingOf_12 : decode b_Desk_thingOf 12 = .ok (.getfield 11, 3) := by decide +kernel
theorem d_Desk_thingOf_15 : decode b_Desk_thingOf 15 = .ok (.iload_n 2, 1) := by decide +kernel
theorem d_Desk_thingOf_16 : decode b_Desk_thingOf 16 = .ok (.aaload, 1) := by decide +kernel
theorem d_Desk_thingOf_17 : decode b_Desk_thingOf 17 = .ok (.invokevirtual 120, 3) := by decide +kernel
theorem d_Desk_thingOf_20 : decode b_Desk_thingOf 20 = .ok (.iload_n 1, 1) := by decide +kernel
theorem d_Desk_thingOf_21 : decode b_Desk_thingOf 21 = .ok (.if_icmp .ne 10, 3) := by decide +kernel
theorem d_Desk_thingOf_24 : decode b_Desk_thingOf 24 = .ok (.aload_n 0, 1) := by decide +kernel
theorem d_Desk_thingOf_25 : decode b_Desk_thingOf 25 = .ok (.getfield 11, 3) := by decide +kernel
theorem d_Desk_thingOf_28 : decode b_Desk_thingOf 28 = .ok (.iload_n 2, 1) := by decide +kernel
theorem d_Desk_thingOf_29 : decode b_Desk_thingOf 29 = .ok (.aaload, 1) := by decide +kernel
theorem d_Desk_thingOf_30 : decode b_Desk_thingOf 30 = .ok (.areturn, 1) := by decide +kernel
theorem d_Desk_thingOf_31 : decode b_Desk_thingOf 31 = .ok (.iinc 2 1, 3) := by decide +kernel
theorem d_Desk_thingOf_34 : decode b_Desk_thingOf 34 = .ok (.goto (-32), 3) := by decide +kernel
theorem d_Desk_thingOf_37 : decode b_Desk_thingOf 37 = .ok (.aconst_null, 1) := by decide +kernel
theorem d_Desk_thingOf_38 : decode b_Desk_thingOf 38 = .ok (.areturn, 1) := by decide +kernel
theorem d_Desk_fault_0 : decode b_Desk_fault 0 = .ok (.aload_n 0, 1) := by decide +kernel
theorem d_Desk_fault_1 : decode b_Desk_fault 1 = .ok (.getfield 42, 3) := by decide +kernel
theorem d_Desk_fault_4 : decode b_Desk_fault 4 = .ok (.ifnonnull 7, 3) := by decide +kernel
theorem d_Desk_fault_7 : decode b_Desk_fault 7 = .ok (.sipush 287, 3) := by decide +kernel
theorem d_Desk_fault_10 : decode b_Desk_fault 10 = .ok (.ireturn, 1) := by decide +kernel
theorem d_Desk_fault_11 : decode b_Desk_fault 11 = .ok (.aload_n 0, 1) := by decide +kernel
theorem d_Desk_fault_12 : decode b_Desk_fault 12 = .ok (.getfield 46, 3) := by decide +kernel
theorem d_Desk_fault_15 : decode b_Desk_fault 15 = .ok (.bipush 75, 2) := by decide +kernel
theorem d_Desk_fault_17 : decode b_Desk_fault 17 = .ok (.if_icmp .eq 34, 3) := by decide +kernel
theorem d_Desk_fault_20 : decode b_Desk_fault 20 = .ok (.aload_n 0, 1) := by decide +kernel
theorem d_Desk_fault_21 : decode b_Desk_fault 21 = .ok (.getfield 46, 3) := by decide +kernel
theorem d_Desk_fault_24 : decode b_Desk_fault 24 = .ok (.bipush 85, 2) := by decide +kernel
theorem d_Desk_fault_26 : decode b_Desk_fault 26 = .ok (.if_icmp .eq 25, 3) := by decide +kernel
theorem d_Desk_fault_29 : decode b_Desk_fault 29 = .ok (.aload_n 0, 1) := by decide +kernel
theorem d_Desk_fault_30 : decode b_Desk_fault 30 = .ok (.getfield 46, 3) := by decide +kernel
theorem d_Desk_fault_33 : decode b_Desk_fault 33 = .ok (.bipush 87, 2) := by decide +kernel
theorem d_Desk_fault_35 : decode b_Desk_fault 35 = .ok (.if_icmp .eq 16, 3) := by decide +kernel
theorem d_Desk_fault_38 : decode b_Desk_fault 38 = .ok (.aload_n 0, 1) := by decide +kernel
theorem d_Desk_fault_39 : decode b_Desk_fault 39 = .ok (.getfield 46, 3) := by decide +kernel
theorem d_Desk_fault_42 : decode b_Desk_fault 42 = .ok (.bipush 104, 2) := by decide +kernel
theorem d_Desk_fault_44 : decode b_Desk_fault 44 = .ok (.if_icmp .eq 7, 3) := by decide +kernel
theorem d_Desk_fault_47 : decode b_Desk_fault 47 = .ok (.sipush 544, 3) := by decide +kernel
theorem d_Desk_fault_50 : decode b_Desk_fault 50 = .ok (.ireturn, 1) := by decide +kernel
theorem d_Desk_fault_51 : decode b_Desk_fault 51 = .ok (.aload_n 0, 1) := by decide +kernel
theorem d_Desk_fault_52 : decode b_Desk_fault 52 = .ok (.getfield 49, 3) := by decide +kernel
theorem d_Desk_fault_55 : decode b_Desk_fault 55 = .ok (.iconst (-1), 1) := by decide +kernel
theorem d_Desk_fault_56 : decode b_Desk_fault 56 = .ok (.if_icmp .eq 16, 3) := by decide +kernel
theorem d_Desk_fault_59 : decode b_Desk_fault 59 = .ok (.aload_n 0, 1) := by decide +kernel
theorem d_Desk_fault_60 : decode b_Desk_fault 60 = .ok (.getfield 46, 3) := by decide +kernel
theorem d_Desk_fault_63 : decode b_Desk_fault 63 = .ok (.bipush 87, 2) := by decide +kernel
theorem d_Desk_fault_65 : decode b_Desk_fault 65 = .ok (.if_icmp .eq 7, 3) := by decide +kernel
theorem d_Desk_fault_68 : decode b_Desk_fault 68 = .ok (.sipush 562, 3) := by decide +kernel
theorem d_Desk_fault_71 : decode b_Desk_fault 71 = .ok (.ireturn, 1) := by decide +kernel
theorem d_Desk_fault_72 : decode b_Desk_fault 72 = .ok (.aload_n 0, 1) := by decide +kernel
theorem d_Desk_fault_73 : decode b_Desk_fault 73 = .ok (.getfield 46, 3) := by decide +kernel
theorem d_Desk_fault_76 : decode b_Desk_fault 76 = .ok (.bipush 87, 2) := by decide +kernel
theorem d_Desk_fault_78 : decode b_Desk_fault 78 = .ok (.if_icmp .ne 24, 3) := by decide +kernel
theorem d_Desk_fault_81 : decode b_Desk_fault 81 = .ok (.aload_n 0, 1) := by decide +kernel
theorem d_Desk_fault_82 : decode b_Desk_fault 82 = .ok (.getfield 49, 3) := by decide +kernel
theorem d_Desk_fault_85 : decode b_Desk_fault 85 = .ok (.iconst (-1), 1) := by decide +kernel
theorem d_Desk_fault_86 : decode b_Desk_fault 86 = .ok (.if_icmp .eq 12, 3) := by decide +kernel
theorem d_Desk_fault_89 : decode b_Desk_fault 89 = .ok (.aload_n 0, 1) := by decide +kernel
theorem d_Desk_fault_90 : decode b_Desk_fault 90 = .ok (.getfield 49, 3) := by decide +kernel
theorem d_Desk_fault_93 : decode b_Desk_fault 93 = .ok (.bipush 16, 2) := by decide +kernel
theorem d_Desk_fault_95 : decode b_Desk_fault 95 = .ok (.if_icmp .le 7, 3) := by decide +kernel
theorem d_Desk_fault_98 : decode b_Desk_fault 98 = .ok (.sipush 554, 3) := by decide +kernel
theorem d_Desk_fault_101 : decode b_Desk_fault 101 = .ok (.ireturn, 1) := by decide +kernel
theorem d_Desk_fault_102 : decode b_Desk_fault 102 = .ok (.aload_n 0, 1) := by decide +kernel
theorem d_Desk_fault_103 : decode b_Desk_fault 103 = .ok (.getfield 36, 3) := by decide +kernel
theorem d_Desk_fault_106 : decode b_Desk_fault 106 = .ok (.bipush 15, 2) := by decide +kernel
theorem d_Desk_fault_108 : decode b_Desk_fault 108 = .ok (.if_icmp .ne 10, 3) := by decide +kernel
theorem d_Desk_fault_111 : decode b_Desk_fault 111 = .ok (.aload_n 0, 1) := by decide +kernel
theorem d_Desk_fault_112 : decode b_Desk_fault 112 = .ok (.invokevirtual 122, 3) := by decide +kernel
theorem d_Desk_fault_115 : decode b_Desk_fault 115 = .ok (.goto 4, 3) := by decide +kernel
theorem d_Desk_fault_118 : decode b_Desk_fault 118 = .ok (.iconst 0, 1) := by decide +kernel
theorem d_Desk_fault_119 : decode b_Desk_fault 119 = .ok (.ireturn, 1) := by decide +kernel
theorem d_Desk_faultOfWrite_0 : decode b_Desk_faultOfWrite 0 = .ok (.aload_n 0, 1) := by decide +kernel
theorem d_Desk_faultOfWrite_1 : decode b_Desk_faultOfWrite 1 = .ok (.getfield 46, 3) := by decide +kernel
theorem d_Desk_faultOfWrite_4 : decode b_Desk_faultOfWrite 4 = .ok (.bipush 75, 2) := by decide +kernel
theorem d_Desk_faultOfWrite_6 : decode b_Desk_faultOfWrite 6 = .ok (.if_icmp .eq 12, 3) := by decide +kernel
theorem d_Desk_faultOfWrite_9 : decode b_Desk_faultOfWrite 9 = .ok (.aload_n 0, 1) := by decide +kernel
theorem d_Desk_faultOfWrite_10 : decode b_Desk_faultOfWrite 10 = .ok (.getfield 46, 3) := by decide +kernel
theorem d_Desk_faultOfWrite_13 : decode b_Desk_faultOfWrite 13 = .ok (.bipush 87, 2) := by decide +kernel
theorem d_Desk_faultOfWrite_15 : decode b_Desk_faultOfWrite 15 = .ok (.if_icmp .ne 7, 3) := by decide +kernel
theorem d_Desk_faultOfWrite_18 : decode b_Desk_faultOfWrite 18 = .ok (.sipush 552, 3) := by decide +kernel
theorem d_Desk_faultOfWrite_21 : decode b_Desk_faultOfWrite 21 = .ok (.ireturn, 1) := by decide +kernel
theorem d_Desk_faultOfWrite_22 : decode b_Desk_faultOfWrite 22 = .ok (.aload_n 0, 1) := by decide +kernel
theorem d_Desk_faultOfWrite_23 : decode b_Desk_faultOfWrite 23 = .ok (.getfield 52, 3) := by decide +kernel
theorem d_Desk_faultOfWrite_26 : decode b_Desk_faultOfWrite 26 = .ok (.ifCond .ne 20, 3) := by decide +kernel
theorem d_Desk_faultOfWrite_29 : decode b_Desk_faultOfWrite 29 = .ok (.aload_n 0, 1) := by decide +kernel
theorem d_Desk_faultOfWrite_30 : decode b_Desk_faultOfWrite 30 = .ok (.getfield 46, 3) := by decide +kernel
theorem d_Desk_faultOfWrite_33 : decode b_Desk_faultOfWrite 33 = .ok (.bipush 85, 2) := by decide +kernel
theorem d_Desk_faultOfWrite_35 : decode b_Desk_faultOfWrite 35 = .ok (.if_icmp .ne 7, 3) := by decide +kernel
theorem d_Desk_faultOfWrite_38 : decode b_Desk_faultOfWrite 38 = .ok (.iconst 0, 1) := by decide +kernel
theorem d_Desk_faultOfWrite_39 : decode b_Desk_faultOfWrite 39 = .ok (.goto 6, 3) := by decide +kernel
theorem d_Desk_faultOfWrite_42 : decode b_Desk_faultOfWrite 42 = .ok (.sipush 521, 3) := by decide +kernel
theorem d_Desk_faultOfWrite_45 : decode b_Desk_faultOfWrite 45 = .ok (.ireturn, 1) := by decide +kernel
theorem d_Desk_faultOfWrite_46 : decode b_Desk_faultOfWrite 46 = .ok (.aload_n 0, 1) := by decide +kernel
theorem d_Desk_faultOfWrite_47 : decode b_Desk_faultOfWrite 47 = .ok (.getfield 52, 3) := by decide +kernel
theorem d_Desk_faultOfWrite_50 : decode b_Desk_faultOfWrite 50 = .ok (.aload_n 0, 1) := by decide +kernel
theorem d_Desk_faultOfWrite_51 : decode b_Desk_faultOfWrite 51 = .ok (.getfield 42, 3) := by decide +kernel
theorem d_Desk_faultOfWrite_54 : decode b_Desk_faultOfWrite 54 = .ok (.invokevirtual 125, 3) := by decide +kernel
theorem d_Desk_faultOfWrite_57 : decode b_Desk_faultOfWrite 57 = .ok (.ifCond .eq 9, 3) := by decide +kernel
theorem d_Desk_faultOfWrite_60 : decode b_Desk_faultOfWrite 60 = .ok (.sipush 145, 3) := by decide +kernel
theorem d_Desk_faultOfWrite_63 : decode b_Desk_faultOfWrite 63 = .ok (.goto 5, 3) := by decide +kernel
theorem d_Desk_faultOfWrite_66 : decode b_Desk_faultOfWrite 66 = .ok (.bipush 68, 2) := by decide +kernel
theorem d_Desk_faultOfWrite_68 : decode b_Desk_faultOfWrite 68 = .ok (.if_icmp .eq 7, 3) := by decide +kernel
theorem d_Desk_faultOfWrite_71 : decode b_Desk_faultOfWrite 71 = .ok (.sipush 521, 3) := by decide +kernel
theorem d_Desk_faultOfWrite_74 : decode b_Desk_faultOfWrite 74 = .ok (.ireturn, 1) := by decide +kernel
theorem d_Desk_faultOfWrite_75 : decode b_Desk_faultOfWrite 75 = .ok (.aload_n 0, 1) := by decide +kernel
theorem d_Desk_faultOfWrite_76 : decode b_Desk_faultOfWrite 76 = .ok (.getfield 42, 3) := by decide +kernel
theorem d_Desk_faultOfWrite_79 : decode b_Desk_faultOfWrite 79 = .ok (.aload_n 0, 1) := by decide +kernel
theorem d_Desk_faultOfWrite_80 : decode b_Desk_faultOfWrite 80 = .ok (.getfield 55, 3) := by decide +kernel
theorem d_Desk_faultOfWrite_83 : decode b_Desk_faultOfWrite 83 = .ok (.invokevirtual 128, 3) := by decide +kernel
theorem d_Desk_faultOfWrite_86 : decode b_Desk_faultOfWrite 86 = .ok (.ifCond .eq 7, 3) := by decide +kernel
theorem d_Desk_faultOfWrite_89 : decode b_Desk_faultOfWrite 89 = .ok (.iconst 0, 1) := by decide +kernel
theorem d_Desk_faultOfWrite_90 : decode b_Desk_faultOfWrite 90 = .ok (.goto 6, 3) := by decide +kernel
theorem d_Desk_faultOfWrite_93 : decode b_Desk_faultOfWrite 93 = .ok (.sipush 549, 3) := by decide +kernel
theorem d_Desk_faultOfWrite_96 : decode b_Desk_faultOfWrite 96 = .ok (.ireturn, 1) := by decide +kernel
theorem d_Desk_write_0 : decode b_Desk_write 0 = .ok (.aload_n 0, 1) := by decide +kernel
theorem d_Desk_write_1 : decode b_Desk_write 1 = .ok (.getfield 52, 3) := by decide +kernel
theorem d_Desk_write_4 : decode b_Desk_write 4 = .ok (.ifCond .ne 18, 3) := by decide +kernel
theorem d_Desk_write_7 : decode b_Desk_write 7 = .ok (.aload_n 0, 1) := by decide +kernel
theorem d_Desk_write_8 : decode b_Desk_write 8 = .ok (.getfield 42, 3) := by decide +kernel
theorem d_Desk_write_11 : decode b_Desk_write 11 = .ok (.aload_n 0, 1) := by decide +kernel
theorem d_Desk_write_12 : decode b_Desk_write 12 = .ok (.getfield 58, 3) := by decide +kernel
theorem d_Desk_write_15 : decode b_Desk_write 15 = .ok (.invokevirtual 131, 3) := by decide +kernel
theorem d_Desk_write_18 : decode b_Desk_write 18 = .ok (.pop, 1) := by decide +kernel
theorem d_Desk_write_19 : decode b_Desk_write 19 = .ok (.goto 32, 3) := by decide +kernel
theorem d_Desk_write_22 : decode b_Desk_write 22 = .ok (.aload_n 0, 1) := by decide +kernel
theorem d_Desk_write_23 : decode b_Desk_write 23 = .ok (.getfield 42, 3) := by decide +kernel
theorem d_Desk_write_26 : decode b_Desk_write 26 = .ok (.aload_n 0, 1) := by decide +kernel
theorem d_Desk_write_27 : decode b_Desk_write 27 = .ok (.getfield 46, 3) := by decide +kernel
theorem d_Desk_write_30 : decode b_Desk_write 30 = .ok (.bipush 104, 2) := by decide +kernel
theorem d_Desk_write_32 : decode b_Desk_write 32 = .ok (.if_icmp .ne 7, 3) := by decide +kernel
theorem d_Desk_write_35 : decode b_Desk_write 35 = .ok (.iconst 0, 1) := by decide +kernel
theorem d_Desk_write_36 : decode b_Desk_write 36 = .ok (.goto 7, 3) := by decide +kernel
theorem d_Desk_write_39 : decode b_Desk_write 39 = .ok (.aload_n 0, 1) := by decide +kernel
theorem d_Desk_write_40 : decode b_Desk_write 40 = .ok (.getfield 58, 3) := by decide +kernel
theorem d_Desk_write_43 : decode b_Desk_write 43 = .ok (.aload_n 0, 1) := by decide +kernel
theorem d_Desk_write_44 : decode b_Desk_write 44 = .ok (.getfield 55, 3) := by decide +kernel
theorem d_Desk_write_47 : decode b_Desk_write 47 = .ok (.invokevirtual 134, 3) := by decide +kernel
theorem d_Desk_write_50 : decode b_Desk_write 50 = .ok (.pop, 1) := by decide +kernel
theorem d_Desk_write_51 : decode b_Desk_write 51 = .ok (.return_, 1) := by decide +kernel
theorem d_Desk_tellPlace_0 : decode b_Desk_tellPlace 0 = .ok (.aload_n 0, 1) := by decide +kernel
theorem d_Desk_tellPlace_1 : decode b_Desk_tellPlace 1 = .ok (.getfield 22, 3) := by decide +kernel
theorem d_Desk_tellPlace_4 : decode b_Desk_tellPlace 4 = .ok (.bipush 12, 2) := by decide +kernel
theorem d_Desk_tellPlace_6 : decode b_Desk_tellPlace 6 = .ok (.invokevirtual 98, 3) := by decide +kernel
theorem d_Desk_tellPlace_9 : decode b_Desk_tellPlace 9 = .ok (.aload_n 0, 1) := by decide +kernel
theorem d_Desk_tellPlace_10 : decode b_Desk_tellPlace 10 = .ok (.getfield 22, 3) := by decide +kernel
theorem d_Desk_tellPlace_13 : decode b_Desk_tellPlace 13 = .ok (.aload_n 0, 1) := by decide +kernel
theorem d_Desk_tellPlace_14 : decode b_Desk_tellPlace 14 = .ok (.getfield 39, 3) := by decide +kernel
theorem d_Desk_tellPlace_17 : decode b_Desk_tellPlace 17 = .ok (.invokevirtual 138, 3) := by decide +kernel
theorem d_Desk_tellPlace_20 : decode b_Desk_tellPlace 20 = .ok (.aload_n 0, 1) := by decide +kernel
theorem d_Desk_tellPlace_21 : decode b_Desk_tellPlace 21 = .ok (.getfield 22, 3) := by decide +kernel
theorem d_Desk_tellPlace_24 : decode b_Desk_tellPlace 24 = .ok (.bipush 25, 2) := by decide +kernel
theorem d_Desk_tellPlace_26 : decode b_Desk_tellPlace 26 = .ok (.invokevirtual 98, 3) := by decide +kernel
theorem d_Desk_tellPlace_29 : decode b_Desk_tellPlace 29 = .ok (.aload_n 0, 1) := by decide +kernel
theorem d_Desk_tellPlace_30 : decode b_Desk_tellPlace 30 = .ok (.getfield 22, 3) := by decide +kernel
theorem d_Desk_tellPlace_33 : decode b_Desk_tellPlace 33 = .ok (.aload_n 0, 1) := by decide +kernel
theorem d_Desk_tellPlace_34 : decode b_Desk_tellPlace 34 = .ok (.getfield 46, 3) := by decide +kernel
theorem d_Desk_tellPlace_37 : decode b_Desk_tellPlace 37 = .ok (.invokevirtual 98, 3) := by decide +kernel
theorem d_Desk_tellPlace_40 : decode b_Desk_tellPlace 40 = .ok (.aload_n 0, 1) := by decide +kernel
theorem d_Desk_tellPlace_41 : decode b_Desk_tellPlace 41 = .ok (.getfield 49, 3) := by decide +kernel
theorem d_Desk_tellPlace_44 : decode b_Desk_tellPlace 44 = .ok (.iconst (-1), 1) := by decide +kernel
theorem d_Desk_tellPlace_45 : decode b_Desk_tellPlace 45 = .ok (.if_icmp .eq 23, 3) := by decide +kernel
theorem d_Desk_tellPlace_48 : decode b_Desk_tellPlace 48 = .ok (.aload_n 0, 1) := by decide +kernel
theorem d_Desk_tellPlace_49 : decode b_Desk_tellPlace 49 = .ok (.getfield 22, 3) := by decide +kernel
theorem d_Desk_tellPlace_52 : decode b_Desk_tellPlace 52 = .ok (.bipush 41, 2) := by decide +kernel
theorem d_Desk_tellPlace_54 : decode b_Desk_tellPlace 54 = .ok (.invokevirtual 98, 3) := by decide +kernel
theorem d_Desk_tellPlace_57 : decode b_Desk_tellPlace 57 = .ok (.aload_n 0, 1) := by decide +kernel
theorem d_Desk_tellPlace_58 : decode b_Desk_tellPlace 58 = .ok (.getfield 22, 3) := by decide +kernel
theorem d_Desk_tellPlace_61 : decode b_Desk_tellPlace 61 = .ok (.aload_n 0, 1) := by decide +kernel
theorem d_Desk_tellPlace_62 : decode b_Desk_tellPlace 62 = .ok (.getfield 49, 3) := by decide +kernel
theorem d_Desk_tellPlace_65 : decode b_Desk_tellPlace 65 = .ok (.invokevirtual 98, 3) := by decide +kernel
theorem d_Desk_tellPlace_68 : decode b_Desk_tellPlace 68 = .ok (.return_, 1) := by decide +kernel
theorem d_Desk_tellProperty_0 : decode b_Desk_tellProperty 0 = .ok (.aload_n 0, 1) := by decide +kernel
theorem d_Desk_tellProperty_1 : decode b_Desk_tellProperty 1 = .ok (.getfield 46, 3) := by decide +kernel
theorem d_Desk_tellProperty_4 : decode b_Desk_tellProperty 4 = .ok (.bipush 75, 2) := by decide +kernel
theorem d_Desk_tellProperty_6 : decode b_Desk_tellProperty 6 = .ok (.if_icmp .ne 27, 3) := by decide +kernel
theorem d_Desk_tellProperty_9 : decode b_Desk_tellProperty 9 = .ok (.aload_n 0, 1) := by decide +kernel
theorem d_Desk_tellProperty_10 : decode b_Desk_tellProperty 10 = .ok (.getfield 22, 3) := by decide +kernel
theorem d_Desk_tellProperty_13 : decode b_Desk_tellProperty 13 = .ok (.sipush 196, 3) := by decide +kernel
theorem d_Desk_tellProperty_16 : decode b_Desk_tellProperty 16 = .ok (.invokevirtual 98, 3) := by decide +kernel
theorem d_Desk_tellProperty_19 : decode b_Desk_tellProperty 19 = .ok (.aload_n 0, 1) := by decide +kernel
theorem d_Desk_tellProperty_20 : decode b_Desk_tellProperty 20 = .ok (.getfield 22, 3) := by decide +kernel
theorem d_Desk_tellProperty_23 : decode b_Desk_tellProperty 23 = .ok (.aload_n 0, 1) := by decide +kernel
theorem d_Desk_tellProperty_24 : decode b_Desk_tellProperty 24 = .ok (.getfield 39, 3) := by decide +kernel
theorem d_Desk_tellProperty_27 : decode b_Desk_tellProperty 27 = .ok (.invokevirtual 138, 3) := by decide +kernel
theorem d_Desk_tellProperty_30 : decode b_Desk_tellProperty 30 = .ok (.goto 128, 3) := by decide +kernel
theorem d_Desk_tellProperty_33 : decode b_Desk_tellProperty 33 = .ok (.aload_n 0, 1) := by decide +kernel
theorem d_Desk_tellProperty_34 : decode b_Desk_tellProperty 34 = .ok (.getfield 46, 3) := by decide +kernel
theorem d_Desk_tellProperty_37 : decode b_Desk_tellProperty 37 = .ok (.bipush 87, 2) := by decide +kernel
theorem d_Desk_tellProperty_39 : decode b_Desk_tellProperty 39 = .ok (.if_icmp .ne 31, 3) := by decide +kernel
theorem d_Desk_tellProperty_42 : decode b_Desk_tellProperty 42 = .ok (.aload_n 0, 1) := by decide +kernel
theorem d_Desk_tellProperty_43 : decode b_Desk_tellProperty 43 = .ok (.getfield 49, 3) := by decide +kernel
theorem d_Desk_tellProperty_46 : decode b_Desk_tellProperty 46 = .ok (.ifCond .ne 24, 3) := by decide +kernel
theorem d_Desk_tellProperty_49 : decode b_Desk_tellProperty 49 = .ok (.aload_n 0, 1) := by decide +kernel
theorem d_Desk_tellProperty_50 : decode b_Desk_tellProperty 50 = .ok (.getfield 22, 3) := by decide +kernel
theorem d_Desk_tellProperty_53 : decode b_Desk_tellProperty 53 = .ok (.bipush 33, 2) := by decide +kernel
theorem d_Desk_tellProperty_55 : decode b_Desk_tellProperty 55 = .ok (.invokevirtual 98, 3) := by decide +kernel
theorem d_Desk_tellProperty_58 : decode b_Desk_tellProperty 58 = .ok (.aload_n 0, 1) := by decide +kernel
theorem d_Desk_tellProperty_59 : decode b_Desk_tellProperty 59 = .ok (.getfield 22, 3) := by decide +kernel
theorem d_Desk_tellProperty_62 : decode b_Desk_tellProperty 62 = .ok (.bipush 16, 2) := by decide +kernel
theorem d_Desk_tellProperty_64 : decode b_Desk_tellProperty 64 = .ok (.invokevirtual 98, 3) := by decide +kernel
theorem d_Desk_tellProperty_67 : decode b_Desk_tellProperty 67 = .ok (.goto 91, 3) := by decide +kernel
theorem d_Desk_tellProperty_70 : decode b_Desk_tellProperty 70 = .ok (.aload_n 0, 1) := by decide +kernel
theorem d_Desk_tellProperty_71 : decode b_Desk_tellProperty 71 = .ok (.getfield 46, 3) := by decide +kernel
theorem d_Desk_tellProperty_74 : decode b_Desk_tellProperty 74 = .ok (.bipush 87, 2) := by decide +kernel
theorem d_Desk_tellProperty_76 : decode b_Desk_tellProperty 76 = .ok (.if_icmp .ne 28, 3) := by decide +kernel
theorem d_Desk_tellProperty_79 : decode b_Desk_tellProperty 79 = .ok (.aload_n 0, 1) := by decide +kernel
theorem d_Desk_tellProperty_80 : decode b_Desk_tellProperty 80 = .ok (.getfield 42, 3) := by decide +kernel
theorem d_Desk_tellProperty_83 : decode b_Desk_tellProperty 83 = .ok (.aload_n 0, 1) := by decide +kernel
theorem d_Desk_tellProperty_84 : decode b_Desk_tellProperty 84 = .ok (.getfield 49, 3) := by decide +kernel
theorem d_Desk_tellProperty_87 : decode b_Desk_tellProperty 87 = .ok (.invokevirtual 141, 3) := by decide +kernel
theorem d_Desk_tellProperty_90 : decode b_Desk_tellProperty 90 = .ok (.ifCond .ne 14, 3) := by decide +kernel
theorem d_Desk_tellProperty_93 : decode b_Desk_tellProperty 93 = .ok (.aload_n 0, 1) := by decide +kernel
theorem d_Desk_tellProperty_94 : decode b_Desk_tellProperty 94 = .ok (.getfield 22, 3) := by decide +kernel
theorem d_Desk_tellProperty_97 : decode b_Desk_tellProperty 97 = .ok (.iconst 0, 1) := by decide +kernel
theorem d_Desk_tellProperty_98 : decode b_Desk_tellProperty 98 = .ok (.invokevirtual 98, 3) := by decide +kernel
theorem d_Desk_tellProperty_101 : decode b_Desk_tellProperty 101 = .ok (.goto 57, 3) := by decide +kernel
theorem d_Desk_tellProperty_104 : decode b_Desk_tellProperty 104 = .ok (.aload_n 0, 1) := by decide +kernel
theorem d_Desk_tellProperty_105 : decode b_Desk_tellProperty 105 = .ok (.getfield 42, 3) := by decide +kernel
theorem d_Desk_tellProperty_108 : decode b_Desk_tellProperty 108 = .ok (.invokevirtual 125, 3) := by decide +kernel
theorem d_Desk_tellProperty_111 : decode b_Desk_tellProperty 111 = .ok (.ifCond .eq 27, 3) := by decide +kernel
theorem d_Desk_tellProperty_114 : decode b_Desk_tellProperty 114 = .ok (.aload_n 0, 1) := by decide +kernel
theorem d_Desk_tellProperty_115 : decode b_Desk_tellProperty 115 = .ok (.getfield 22, 3) := by decide +kernel
theorem d_Desk_tellProperty_118 : decode b_Desk_tellProperty 118 = .ok (.sipush 145, 3) := by decide +kernel
theorem d_Desk_tellProperty_121 : decode b_Desk_tellProperty 121 = .ok (.invokevirtual 98, 3) := by decide +kernel
theorem d_Desk_tellProperty_124 : decode b_Desk_tellProperty 124 = .ok (.aload_n 0, 1) := by decide +kernel
theorem d_Desk_tellProperty_125 : decode b_Desk_tellProperty 125 = .ok (.getfield 22, 3) := by decide +kernel
theorem d_Desk_tellProperty_128 : decode b_Desk_tellProperty 128 = .ok (.aload_n 0, 1) := by decide +kernel
theorem d_Desk_tellProperty_129 : decode b_Desk_tellProperty 129 = .ok (.invokevirtual 144, 3) := by decide +kernel
theorem d_Desk_tellProperty_132 : decode b_Desk_tellProperty 132 = .ok (.invokevirtual 98, 3) := by decide +kernel
theorem d_Desk_tellProperty_135 : decode b_Desk_tellProperty 135 = .ok (.goto 23, 3) := by decide +kernel
theorem d_Desk_tellProperty_138 : decode b_Desk_tellProperty 138 = .ok (.aload_n 0, 1) := by decide +kernel
theorem d_Desk_tellProperty_139 : decode b_Desk_tellProperty 139 = .ok (.getfield 22, 3) := by decide +kernel
theorem d_Desk_tellProperty_142 : decode b_Desk_tellProperty 142 = .ok (.bipush 68, 2) := by decide +kernel
theorem d_Desk_tellProperty_144 : decode b_Desk_tellProperty 144 = .ok (.invokevirtual 98, 3) := by decide +kernel
theorem d_Desk_tellProperty_147 : decode b_Desk_tellProperty 147 = .ok (.aload_n 0, 1) := by decide +kernel
theorem d_Desk_tellProperty_148 : decode b_Desk_tellProperty 148 = .ok (.getfield 22, 3) := by decide +kernel
theorem d_Desk_tellProperty_151 : decode b_Desk_tellProperty 151 = .ok (.aload_n 0, 1) := by decide +kernel
theorem d_Desk_tellProperty_152 : decode b_Desk_tellProperty 152 = .ok (.invokevirtual 144, 3) := by decide +kernel
theorem d_Desk_tellProperty_155 : decode b_Desk_tellProperty 155 = .ok (.invokevirtual 138, 3) := by decide +kernel
theorem d_Desk_tellProperty_158 : decode b_Desk_tellProperty 158 = .ok (.return_, 1) := by decide +kernel
theorem d_Desk_valueRead_0 : decode b_Desk_valueRead 0 = .ok (.aload_n 0, 1) := by decide +kernel
theorem d_Desk_valueRead_1 : decode b_Desk_valueRead 1 = .ok (.getfield 46, 3) := by decide +kernel
theorem d_Desk_valueRead_4 : decode b_Desk_valueRead 4 = .ok (.bipush 85, 2) := by decide +kernel
theorem d_Desk_valueRead_6 : decode b_Desk_valueRead 6 = .ok (.if_icmp .ne 11, 3) := by decide +kernel
theorem d_Desk_valueRead_9 : decode b_Desk_valueRead 9 = .ok (.aload_n 0, 1) := by decide +kernel
theorem d_Desk_valueRead_10 : decode b_Desk_valueRead 10 = .ok (.getfield 42, 3) := by decide +kernel
theorem d_Desk_valueRead_13 : decode b_Desk_valueRead 13 = .ok (.invokevirtual 147, 3) := by decide +kernel
theorem d_Desk_valueRead_16 : decode b_Desk_valueRead 16 = .ok (.ireturn, 1) := by decide +kernel
theorem d_Desk_valueRead_17 : decode b_Desk_valueRead 17 = .ok (.aload_n 0, 1) := by decide +kernel
theorem d_Desk_valueRead_18 : decode b_Desk_valueRead 18 = .ok (.getfield 42, 3) := by decide +kernel
theorem d_Desk_valueRead_21 : decode b_Desk_valueRead 21 = .ok (.aload_n 0, 1) := by decide +kernel
theorem d_Desk_valueRead_22 : decode b_Desk_valueRead 22 = .ok (.getfield 46, 3) := by decide +kernel
theorem d_Desk_valueRead_25 : decode b_Desk_valueRead 25 = .ok (.bipush 104, 2) := by decide +kernel
theorem d_Desk_valueRead_27 : decode b_Desk_valueRead 27 = .ok (.if_icmp .ne 7, 3) := by decide +kernel
theorem d_Desk_valueRead_30 : decode b_Desk_valueRead 30 = .ok (.iconst 0, 1) := by decide +kernel
theorem d_Desk_valueRead_31 : decode b_Desk_valueRead 31 = .ok (.goto 7, 3) := by decide +kernel
theorem d_Desk_valueRead_34 : decode b_Desk_valueRead 34 = .ok (.aload_n 0, 1) := by decide +kernel
theorem d_Desk_valueRead_35 : decode b_Desk_valueRead 35 = .ok (.getfield 49, 3) := by decide +kernel
theorem d_Desk_valueRead_38 : decode b_Desk_valueRead 38 = .ok (.invokevirtual 150, 3) := by decide +kernel
theorem d_Desk_valueRead_41 : decode b_Desk_valueRead 41 = .ok (.ireturn, 1) := by decide +kernel
theorem d_Desk_thing_0 : decode b_Desk_thing 0 = .ok (.iload_n 1, 1) := by decide +kernel
theorem d_Desk_thing_1 : decode b_Desk_thing 1 = .ok (.ifCond .lt 21, 3) := by decide +kernel
theorem d_Desk_thing_4 : decode b_Desk_thing 4 = .ok (.iload_n 1, 1) := by decide +kernel
theorem d_Desk_thing_5 : decode b_Desk_thing 5 = .ok (.aload_n 0, 1) := by decide +kernel
theorem d_Desk_thing_6 : decode b_Desk_thing 6 = .ok (.getfield 11, 3) := by decide +kernel
theorem d_Desk_thing_9 : decode b_Desk_thing 9 = .ok (.arraylength, 1) := by decide +kernel
theorem d_Desk_thing_10 : decode b_Desk_thing 10 = .ok (.if_icmp .ge 12, 3) := by decide +kernel
theorem d_Desk_thing_13 : decode b_Desk_thing 13 = .ok (.aload_n 0, 1) := by decide +kernel
theorem d_Desk_thing_14 : decode b_Desk_thing 14 = .ok (.getfield 11, 3) := by decide +kernel
theorem d_Desk_thing_17 : decode b_Desk_thing 17 = .ok (.iload_n 1, 1) := by decide +kernel
theorem d_Desk_thing_18 : decode b_Desk_thing 18 = .ok (.aaload, 1) := by decide +kernel
theorem d_Desk_thing_19 : decode b_Desk_thing 19 = .ok (.goto 4, 3) := by decide +kernel
theorem d_Desk_thing_22 : decode b_Desk_thing 22 = .ok (.aconst_null, 1) := by decide +kernel
theorem d_Desk_thing_23 : decode b_Desk_thing 23 = .ok (.areturn, 1) := by decide +kernel
