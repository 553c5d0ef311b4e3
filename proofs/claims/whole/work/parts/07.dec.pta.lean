theorem d_PT_init_0 : decode b_PT_init 0 = .ok (.aload_n 0, 1) := by decide +kernel
theorem d_PT_init_1 : decode b_PT_init 1 = .ok (.invokespecial 1, 3) := by decide +kernel
theorem d_PT_init_4 : decode b_PT_init 4 = .ok (.aload_n 0, 1) := by decide +kernel
theorem d_PT_init_5 : decode b_PT_init 5 = .ok (.new 7, 3) := by decide +kernel
theorem d_PT_init_8 : decode b_PT_init 8 = .ok (.dup, 1) := by decide +kernel
theorem d_PT_init_9 : decode b_PT_init 9 = .ok (.sipush 128, 3) := by decide +kernel
theorem d_PT_init_12 : decode b_PT_init 12 = .ok (.invokespecial 11, 3) := by decide +kernel
theorem d_PT_init_15 : decode b_PT_init 15 = .ok (.putfield 14, 3) := by decide +kernel
theorem d_PT_init_18 : decode b_PT_init 18 = .ok (.aload_n 0, 1) := by decide +kernel
theorem d_PT_init_19 : decode b_PT_init 19 = .ok (.new 7, 3) := by decide +kernel
theorem d_PT_init_22 : decode b_PT_init 22 = .ok (.dup, 1) := by decide +kernel
theorem d_PT_init_23 : decode b_PT_init 23 = .ok (.iconst 0, 1) := by decide +kernel
theorem d_PT_init_24 : decode b_PT_init 24 = .ok (.invokespecial 11, 3) := by decide +kernel
theorem d_PT_init_27 : decode b_PT_init 27 = .ok (.putfield 18, 3) := by decide +kernel
theorem d_PT_init_30 : decode b_PT_init 30 = .ok (.aload_n 0, 1) := by decide +kernel
theorem d_PT_init_31 : decode b_PT_init 31 = .ok (.new 7, 3) := by decide +kernel
theorem d_PT_init_34 : decode b_PT_init 34 = .ok (.dup, 1) := by decide +kernel
theorem d_PT_init_35 : decode b_PT_init 35 = .ok (.bipush 13, 2) := by decide +kernel
theorem d_PT_init_37 : decode b_PT_init 37 = .ok (.invokespecial 11, 3) := by decide +kernel
theorem d_PT_init_40 : decode b_PT_init 40 = .ok (.putfield 21, 3) := by decide +kernel
theorem d_PT_init_43 : decode b_PT_init 43 = .ok (.aload_n 0, 1) := by decide +kernel
theorem d_PT_init_44 : decode b_PT_init 44 = .ok (.new 7, 3) := by decide +kernel
theorem d_PT_init_47 : decode b_PT_init 47 = .ok (.dup, 1) := by decide +kernel
theorem d_PT_init_48 : decode b_PT_init 48 = .ok (.bipush 40, 2) := by decide +kernel
theorem d_PT_init_50 : decode b_PT_init 50 = .ok (.invokespecial 11, 3) := by decide +kernel
theorem d_PT_init_53 : decode b_PT_init 53 = .ok (.putfield 24, 3) := by decide +kernel
theorem d_PT_init_56 : decode b_PT_init 56 = .ok (.aload_n 0, 1) := by decide +kernel
theorem d_PT_init_57 : decode b_PT_init 57 = .ok (.new 27, 3) := by decide +kernel
theorem d_PT_init_60 : decode b_PT_init 60 = .ok (.dup, 1) := by decide +kernel
theorem d_PT_init_61 : decode b_PT_init 61 = .ok (.invokespecial 29, 3) := by decide +kernel
theorem d_PT_init_64 : decode b_PT_init 64 = .ok (.putfield 30, 3) := by decide +kernel
theorem d_PT_init_67 : decode b_PT_init 67 = .ok (.aload_n 0, 1) := by decide +kernel
theorem d_PT_init_68 : decode b_PT_init 68 = .ok (.iconst 0, 1) := by decide +kernel
theorem d_PT_init_69 : decode b_PT_init 69 = .ok (.putfield 34, 3) := by decide +kernel
theorem d_PT_init_72 : decode b_PT_init 72 = .ok (.aload_n 0, 1) := by decide +kernel
theorem d_PT_init_73 : decode b_PT_init 73 = .ok (.iconst 0, 1) := by decide +kernel
theorem d_PT_init_74 : decode b_PT_init 74 = .ok (.putfield 38, 3) := by decide +kernel
theorem d_PT_init_77 : decode b_PT_init 77 = .ok (.aload_n 0, 1) := by decide +kernel
theorem d_PT_init_78 : decode b_PT_init 78 = .ok (.iconst 0, 1) := by decide +kernel
theorem d_PT_init_79 : decode b_PT_init 79 = .ok (.putfield 41, 3) := by decide +kernel
theorem d_PT_init_82 : decode b_PT_init 82 = .ok (.aload_n 0, 1) := by decide +kernel
theorem d_PT_init_83 : decode b_PT_init 83 = .ok (.iconst 0, 1) := by decide +kernel
theorem d_PT_init_84 : decode b_PT_init 84 = .ok (.putfield 44, 3) := by decide +kernel
theorem d_PT_init_87 : decode b_PT_init 87 = .ok (.aload_n 0, 1) := by decide +kernel
theorem d_PT_init_88 : decode b_PT_init 88 = .ok (.iconst 0, 1) := by decide +kernel
theorem d_PT_init_89 : decode b_PT_init 89 = .ok (.putfield 48, 3) := by decide +kernel
theorem d_PT_init_92 : decode b_PT_init 92 = .ok (.aload_n 0, 1) := by decide +kernel
theorem d_PT_init_93 : decode b_PT_init 93 = .ok (.iconst 0, 1) := by decide +kernel
theorem d_PT_init_94 : decode b_PT_init 94 = .ok (.putfield 51, 3) := by decide +kernel
theorem d_PT_init_97 : decode b_PT_init 97 = .ok (.aload_n 0, 1) := by decide +kernel
theorem d_PT_init_98 : decode b_PT_init 98 = .ok (.iconst 0, 1) := by decide +kernel
theorem d_PT_init_99 : decode b_PT_init 99 = .ok (.putfield 54, 3) := by decide +kernel
theorem d_PT_init_102 : decode b_PT_init 102 = .ok (.aload_n 0, 1) := by decide +kernel
theorem d_PT_init_103 : decode b_PT_init 103 = .ok (.iconst 0, 1) := by decide +kernel
theorem d_PT_init_104 : decode b_PT_init 104 = .ok (.putfield 57, 3) := by decide +kernel
theorem d_PT_init_107 : decode b_PT_init 107 = .ok (.aload_n 0, 1) := by decide +kernel
theorem d_PT_init_108 : decode b_PT_init 108 = .ok (.iconst 1, 1) := by decide +kernel
theorem d_PT_init_109 : decode b_PT_init 109 = .ok (.bipush 15, 2) := by decide +kernel
theorem d_PT_init_111 : decode b_PT_init 111 = .ok (.iload_n 2, 1) := by decide +kernel
theorem d_PT_init_112 : decode b_PT_init 112 = .ok (.invokestatic 60, 3) := by decide +kernel
theorem d_PT_init_115 : decode b_PT_init 115 = .ok (.invokestatic 66, 3) := by decide +kernel
theorem d_PT_init_118 : decode b_PT_init 118 = .ok (.putfield 69, 3) := by decide +kernel
theorem d_PT_init_121 : decode b_PT_init 121 = .ok (.aload_n 0, 1) := by decide +kernel
theorem d_PT_init_122 : decode b_PT_init 122 = .ok (.iconst 0, 1) := by decide +kernel
theorem d_PT_init_123 : decode b_PT_init 123 = .ok (.aload_n 0, 1) := by decide +kernel
theorem d_PT_init_124 : decode b_PT_init 124 = .ok (.getfield 69, 3) := by decide +kernel
theorem d_PT_init_127 : decode b_PT_init 127 = .ok (.iload_n 1, 1) := by decide +kernel
theorem d_PT_init_128 : decode b_PT_init 128 = .ok (.invokestatic 60, 3) := by decide +kernel
theorem d_PT_init_131 : decode b_PT_init 131 = .ok (.invokestatic 66, 3) := by decide +kernel
theorem d_PT_init_134 : decode b_PT_init 134 = .ok (.putfield 72, 3) := by decide +kernel
theorem d_PT_init_137 : decode b_PT_init 137 = .ok (.aload_n 0, 1) := by decide +kernel
theorem d_PT_init_138 : decode b_PT_init 138 = .ok (.aload_n 0, 1) := by decide +kernel
theorem d_PT_init_139 : decode b_PT_init 139 = .ok (.getfield 72, 3) := by decide +kernel
theorem d_PT_init_142 : decode b_PT_init 142 = .ok (.putfield 75, 3) := by decide +kernel
theorem d_PT_init_145 : decode b_PT_init 145 = .ok (.aload_n 0, 1) := by decide +kernel
theorem d_PT_init_146 : decode b_PT_init 146 = .ok (.aload_n 0, 1) := by decide +kernel
theorem d_PT_init_147 : decode b_PT_init 147 = .ok (.getfield 72, 3) := by decide +kernel
theorem d_PT_init_150 : decode b_PT_init 150 = .ok (.putfield 78, 3) := by decide +kernel
theorem d_PT_init_153 : decode b_PT_init 153 = .ok (.aload_n 0, 1) := by decide +kernel
theorem d_PT_init_154 : decode b_PT_init 154 = .ok (.new 81, 3) := by decide +kernel
theorem d_PT_init_157 : decode b_PT_init 157 = .ok (.dup, 1) := by decide +kernel
theorem d_PT_init_158 : decode b_PT_init 158 = .ok (.aload_n 0, 1) := by decide +kernel
theorem d_PT_init_159 : decode b_PT_init 159 = .ok (.getfield 72, 3) := by decide +kernel
theorem d_PT_init_162 : decode b_PT_init 162 = .ok (.invokespecial 83, 3) := by decide +kernel
theorem d_PT_init_165 : decode b_PT_init 165 = .ok (.putfield 84, 3) := by decide +kernel
theorem d_PT_init_168 : decode b_PT_init 168 = .ok (.return_, 1) := by decide +kernel
theorem d_PT_hear_0 : decode b_PT_hear 0 = .ok (.iload_n 1, 1) := by decide +kernel
theorem d_PT_hear_1 : decode b_PT_hear 1 = .ok (.invokestatic 88, 3) := by decide +kernel
theorem d_PT_hear_4 : decode b_PT_hear 4 = .ok (.ifCond .ne 5, 3) := by decide +kernel
theorem d_PT_hear_7 : decode b_PT_hear 7 = .ok (.iconst (-1), 1) := by decide +kernel
theorem d_PT_hear_8 : decode b_PT_hear 8 = .ok (.ireturn, 1) := by decide +kernel
theorem d_PT_hear_9 : decode b_PT_hear 9 = .ok (.aload_n 0, 1) := by decide +kernel
theorem d_PT_hear_10 : decode b_PT_hear 10 = .ok (.getfield 14, 3) := by decide +kernel
theorem d_PT_hear_13 : decode b_PT_hear 13 = .ok (.invokevirtual 92, 3) := by decide +kernel
theorem d_PT_hear_16 : decode b_PT_hear 16 = .ok (.aload_n 0, 1) := by decide +kernel
theorem d_PT_hear_17 : decode b_PT_hear 17 = .ok (.iconst 0, 1) := by decide +kernel
theorem d_PT_hear_18 : decode b_PT_hear 18 = .ok (.putfield 51, 3) := by decide +kernel
theorem d_PT_hear_21 : decode b_PT_hear 21 = .ok (.aload_n 0, 1) := by decide +kernel
theorem d_PT_hear_22 : decode b_PT_hear 22 = .ok (.dup, 1) := by decide +kernel
theorem d_PT_hear_23 : decode b_PT_hear 23 = .ok (.getfield 48, 3) := by decide +kernel
theorem d_PT_hear_26 : decode b_PT_hear 26 = .ok (.iconst 1, 1) := by decide +kernel
theorem d_PT_hear_27 : decode b_PT_hear 27 = .ok (.iadd, 1) := by decide +kernel
theorem d_PT_hear_28 : decode b_PT_hear 28 = .ok (.putfield 48, 3) := by decide +kernel
theorem d_PT_hear_31 : decode b_PT_hear 31 = .ok (.aload_n 0, 1) := by decide +kernel
theorem d_PT_hear_32 : decode b_PT_hear 32 = .ok (.aload_n 0, 1) := by decide +kernel
theorem d_PT_hear_33 : decode b_PT_hear 33 = .ok (.getfield 84, 3) := by decide +kernel
theorem d_PT_hear_36 : decode b_PT_hear 36 = .ok (.iload_n 1, 1) := by decide +kernel
theorem d_PT_hear_37 : decode b_PT_hear 37 = .ok (.invokevirtual 95, 3) := by decide +kernel
theorem d_PT_hear_40 : decode b_PT_hear 40 = .ok (.invokevirtual 99, 3) := by decide +kernel
theorem d_PT_hear_43 : decode b_PT_hear 43 = .ok (.aload_n 0, 1) := by decide +kernel
theorem d_PT_hear_44 : decode b_PT_hear 44 = .ok (.getfield 14, 3) := by decide +kernel
theorem d_PT_hear_47 : decode b_PT_hear 47 = .ok (.invokevirtual 102, 3) := by decide +kernel
theorem d_PT_hear_50 : decode b_PT_hear 50 = .ok (.ireturn, 1) := by decide +kernel
theorem d_PT_isByte_0 : decode b_PT_isByte 0 = .ok (.iload_n 0, 1) := by decide +kernel
theorem d_PT_isByte_1 : decode b_PT_isByte 1 = .ok (.ifCond .lt 14, 3) := by decide +kernel
theorem d_PT_isByte_4 : decode b_PT_isByte 4 = .ok (.iload_n 0, 1) := by decide +kernel
theorem d_PT_isByte_5 : decode b_PT_isByte 5 = .ok (.sipush 255, 3) := by decide +kernel
theorem d_PT_isByte_8 : decode b_PT_isByte 8 = .ok (.if_icmp .gt 7, 3) := by decide +kernel
theorem d_PT_isByte_11 : decode b_PT_isByte 11 = .ok (.iconst 1, 1) := by decide +kernel
theorem d_PT_isByte_12 : decode b_PT_isByte 12 = .ok (.goto 4, 3) := by decide +kernel
theorem d_PT_isByte_15 : decode b_PT_isByte 15 = .ok (.iconst 0, 1) := by decide +kernel
theorem d_PT_isByte_16 : decode b_PT_isByte 16 = .ok (.ireturn, 1) := by decide +kernel
theorem d_PT_settle_0 : decode b_PT_settle 0 = .ok (.iload_n 1, 1) := by decide +kernel
theorem d_PT_settle_1 : decode b_PT_settle 1 = .ok (.istore_n 2, 1) := by decide +kernel
theorem d_PT_settle_2 : decode b_PT_settle 2 = .ok (.iconst 1, 1) := by decide +kernel
theorem d_PT_settle_3 : decode b_PT_settle 3 = .ok (.istore_n 3, 1) := by decide +kernel
theorem d_PT_settle_4 : decode b_PT_settle 4 = .ok (.iconst 0, 1) := by decide +kernel
theorem d_PT_settle_5 : decode b_PT_settle 5 = .ok (.istore 4, 2) := by decide +kernel
theorem d_PT_settle_7 : decode b_PT_settle 7 = .ok (.iload_n 3, 1) := by decide +kernel
theorem d_PT_settle_8 : decode b_PT_settle 8 = .ok (.ifCond .eq 128, 3) := by decide +kernel
theorem d_PT_settle_11 : decode b_PT_settle 11 = .ok (.iload 4, 2) := by decide +kernel
theorem d_PT_settle_13 : decode b_PT_settle 13 = .ok (.bipush 64, 2) := by decide +kernel
theorem d_PT_settle_15 : decode b_PT_settle 15 = .ok (.if_icmp .ge 121, 3) := by decide +kernel
theorem d_PT_settle_18 : decode b_PT_settle 18 = .ok (.aload_n 0, 1) := by decide +kernel
theorem d_PT_settle_19 : decode b_PT_settle 19 = .ok (.getfield 34, 3) := by decide +kernel
theorem d_PT_settle_22 : decode b_PT_settle 22 = .ok (.tableswitch 88 0 5 #[38, 47, 55, 64, 72, 80], 38) := by decide +kernel
theorem d_PT_settle_60 : decode b_PT_settle 60 = .ok (.aload_n 0, 1) := by decide +kernel
theorem d_PT_settle_61 : decode b_PT_settle 61 = .ok (.iload_n 2, 1) := by decide +kernel
theorem d_PT_settle_62 : decode b_PT_settle 62 = .ok (.invokevirtual 139, 3) := by decide +kernel
theorem d_PT_settle_65 : decode b_PT_settle 65 = .ok (.istore_n 3, 1) := by decide +kernel
theorem d_PT_settle_66 : decode b_PT_settle 66 = .ok (.goto 62, 3) := by decide +kernel
theorem d_PT_settle_69 : decode b_PT_settle 69 = .ok (.aload_n 0, 1) := by decide +kernel
theorem d_PT_settle_70 : decode b_PT_settle 70 = .ok (.invokevirtual 142, 3) := by decide +kernel
theorem d_PT_settle_73 : decode b_PT_settle 73 = .ok (.istore_n 3, 1) := by decide +kernel
theorem d_PT_settle_74 : decode b_PT_settle 74 = .ok (.goto 54, 3) := by decide +kernel
theorem d_PT_settle_77 : decode b_PT_settle 77 = .ok (.aload_n 0, 1) := by decide +kernel
theorem d_PT_settle_78 : decode b_PT_settle 78 = .ok (.iload_n 2, 1) := by decide +kernel
theorem d_PT_settle_79 : decode b_PT_settle 79 = .ok (.invokevirtual 146, 3) := by decide +kernel
theorem d_PT_settle_82 : decode b_PT_settle 82 = .ok (.istore_n 3, 1) := by decide +kernel
theorem d_PT_settle_83 : decode b_PT_settle 83 = .ok (.goto 45, 3) := by decide +kernel
theorem d_PT_settle_86 : decode b_PT_settle 86 = .ok (.aload_n 0, 1) := by decide +kernel
theorem d_PT_settle_87 : decode b_PT_settle 87 = .ok (.invokevirtual 149, 3) := by decide +kernel
theorem d_PT_settle_90 : decode b_PT_settle 90 = .ok (.istore_n 3, 1) := by decide +kernel
theorem d_PT_settle_91 : decode b_PT_settle 91 = .ok (.goto 37, 3) := by decide +kernel
theorem d_PT_settle_94 : decode b_PT_settle 94 = .ok (.aload_n 0, 1) := by decide +kernel
theorem d_PT_settle_95 : decode b_PT_settle 95 = .ok (.invokevirtual 152, 3) := by decide +kernel
theorem d_PT_settle_98 : decode b_PT_settle 98 = .ok (.istore_n 3, 1) := by decide +kernel
theorem d_PT_settle_99 : decode b_PT_settle 99 = .ok (.goto 29, 3) := by decide +kernel
theorem d_PT_settle_102 : decode b_PT_settle 102 = .ok (.aload_n 0, 1) := by decide +kernel
theorem d_PT_settle_103 : decode b_PT_settle 103 = .ok (.invokevirtual 155, 3) := by decide +kernel
theorem d_PT_settle_106 : decode b_PT_settle 106 = .ok (.istore_n 3, 1) := by decide +kernel
theorem d_PT_settle_107 : decode b_PT_settle 107 = .ok (.goto 21, 3) := by decide +kernel
theorem d_PT_settle_110 : decode b_PT_settle 110 = .ok (.iload_n 2, 1) := by decide +kernel
theorem d_PT_settle_111 : decode b_PT_settle 111 = .ok (.iconst 1, 1) := by decide +kernel
theorem d_PT_settle_112 : decode b_PT_settle 112 = .ok (.if_icmp .ne 10, 3) := by decide +kernel
theorem d_PT_settle_115 : decode b_PT_settle 115 = .ok (.aload_n 0, 1) := by decide +kernel
theorem d_PT_settle_116 : decode b_PT_settle 116 = .ok (.invokevirtual 158, 3) := by decide +kernel
theorem d_PT_settle_119 : decode b_PT_settle 119 = .ok (.goto 8, 3) := by decide +kernel
theorem d_PT_settle_122 : decode b_PT_settle 122 = .ok (.aload_n 0, 1) := by decide +kernel
theorem d_PT_settle_123 : decode b_PT_settle 123 = .ok (.iload_n 2, 1) := by decide +kernel
theorem d_PT_settle_124 : decode b_PT_settle 124 = .ok (.invokevirtual 161, 3) := by decide +kernel
theorem d_PT_settle_127 : decode b_PT_settle 127 = .ok (.istore_n 3, 1) := by decide +kernel
theorem d_PT_settle_128 : decode b_PT_settle 128 = .ok (.iconst 0, 1) := by decide +kernel
theorem d_PT_settle_129 : decode b_PT_settle 129 = .ok (.istore_n 2, 1) := by decide +kernel
theorem d_PT_settle_130 : decode b_PT_settle 130 = .ok (.iinc 4 1, 3) := by decide +kernel
theorem d_PT_settle_133 : decode b_PT_settle 133 = .ok (.goto (-126), 3) := by decide +kernel
theorem d_PT_settle_136 : decode b_PT_settle 136 = .ok (.return_, 1) := by decide +kernel
theorem d_PT_idleLine_0 : decode b_PT_idleLine 0 = .ok (.iload_n 1, 1) := by decide +kernel
theorem d_PT_idleLine_1 : decode b_PT_idleLine 1 = .ok (.iconst 1, 1) := by decide +kernel
theorem d_PT_idleLine_2 : decode b_PT_idleLine 2 = .ok (.if_icmp .ne 139, 3) := by decide +kernel
theorem d_PT_idleLine_5 : decode b_PT_idleLine 5 = .ok (.aload_n 0, 1) := by decide +kernel
theorem d_PT_idleLine_6 : decode b_PT_idleLine 6 = .ok (.getfield 84, 3) := by decide +kernel
theorem d_PT_idleLine_9 : decode b_PT_idleLine 9 = .ok (.invokevirtual 164, 3) := by decide +kernel
theorem d_PT_idleLine_12 : decode b_PT_idleLine 12 = .ok (.aload_n 0, 1) := by decide +kernel
theorem d_PT_idleLine_13 : decode b_PT_idleLine 13 = .ok (.getfield 72, 3) := by decide +kernel
theorem d_PT_idleLine_16 : decode b_PT_idleLine 16 = .ok (.if_icmp .ne 125, 3) := by decide +kernel
theorem d_PT_idleLine_19 : decode b_PT_idleLine 19 = .ok (.aload_n 0, 1) := by decide +kernel
theorem d_PT_idleLine_20 : decode b_PT_idleLine 20 = .ok (.getfield 84, 3) := by decide +kernel
theorem d_PT_idleLine_23 : decode b_PT_idleLine 23 = .ok (.invokevirtual 167, 3) := by decide +kernel
theorem d_PT_idleLine_26 : decode b_PT_idleLine 26 = .ok (.tableswitch 113 0 5 #[38, 51, 113, 70, 113, 92], 38) := by decide +kernel
theorem d_PT_idleLine_64 : decode b_PT_idleLine 64 = .ok (.aload_n 0, 1) := by decide +kernel
theorem d_PT_idleLine_65 : decode b_PT_idleLine 65 = .ok (.iconst 0, 1) := by decide +kernel
theorem d_PT_idleLine_66 : decode b_PT_idleLine 66 = .ok (.putfield 44, 3) := by decide +kernel
theorem d_PT_idleLine_69 : decode b_PT_idleLine 69 = .ok (.aload_n 0, 1) := by decide +kernel
theorem d_PT_idleLine_70 : decode b_PT_idleLine 70 = .ok (.iconst 1, 1) := by decide +kernel
theorem d_PT_idleLine_71 : decode b_PT_idleLine 71 = .ok (.putfield 34, 3) := by decide +kernel
theorem d_PT_idleLine_74 : decode b_PT_idleLine 74 = .ok (.goto 65, 3) := by decide +kernel
theorem d_PT_idleLine_77 : decode b_PT_idleLine 77 = .ok (.aload_n 0, 1) := by decide +kernel
theorem d_PT_idleLine_78 : decode b_PT_idleLine 78 = .ok (.iconst 2, 1) := by decide +kernel
theorem d_PT_idleLine_79 : decode b_PT_idleLine 79 = .ok (.aload_n 0, 1) := by decide +kernel
theorem d_PT_idleLine_80 : decode b_PT_idleLine 80 = .ok (.getfield 84, 3) := by decide +kernel
theorem d_PT_idleLine_83 : decode b_PT_idleLine 83 = .ok (.invokevirtual 170, 3) := by decide +kernel
theorem d_PT_idleLine_86 : decode b_PT_idleLine 86 = .ok (.aload_n 0, 1) := by decide +kernel
theorem d_PT_idleLine_87 : decode b_PT_idleLine 87 = .ok (.getfield 18, 3) := by decide +kernel
theorem d_PT_idleLine_90 : decode b_PT_idleLine 90 = .ok (.invokevirtual 173, 3) := by decide +kernel
theorem d_PT_idleLine_93 : decode b_PT_idleLine 93 = .ok (.goto 46, 3) := by decide +kernel
theorem d_PT_idleLine_96 : decode b_PT_idleLine 96 = .ok (.aload_n 0, 1) := by decide +kernel
theorem d_PT_idleLine_97 : decode b_PT_idleLine 97 = .ok (.iconst 4, 1) := by decide +kernel
theorem d_PT_idleLine_98 : decode b_PT_idleLine 98 = .ok (.aload_n 0, 1) := by decide +kernel
theorem d_PT_idleLine_99 : decode b_PT_idleLine 99 = .ok (.getfield 84, 3) := by decide +kernel
theorem d_PT_idleLine_102 : decode b_PT_idleLine 102 = .ok (.invokevirtual 170, 3) := by decide +kernel
theorem d_PT_idleLine_105 : decode b_PT_idleLine 105 = .ok (.aload_n 0, 1) := by decide +kernel
theorem d_PT_idleLine_106 : decode b_PT_idleLine 106 = .ok (.getfield 84, 3) := by decide +kernel
theorem d_PT_idleLine_109 : decode b_PT_idleLine 109 = .ok (.invokevirtual 177, 3) := by decide +kernel
theorem d_PT_idleLine_112 : decode b_PT_idleLine 112 = .ok (.invokevirtual 173, 3) := by decide +kernel
theorem d_PT_idleLine_115 : decode b_PT_idleLine 115 = .ok (.goto 24, 3) := by decide +kernel
theorem d_PT_idleLine_118 : decode b_PT_idleLine 118 = .ok (.aload_n 0, 1) := by decide +kernel
theorem d_PT_idleLine_119 : decode b_PT_idleLine 119 = .ok (.aload_n 0, 1) := by decide +kernel
theorem d_PT_idleLine_120 : decode b_PT_idleLine 120 = .ok (.getfield 30, 3) := by decide +kernel
theorem d_PT_idleLine_123 : decode b_PT_idleLine 123 = .ok (.aload_n 0, 1) := by decide +kernel
theorem d_PT_idleLine_124 : decode b_PT_idleLine 124 = .ok (.getfield 84, 3) := by decide +kernel
theorem d_PT_idleLine_127 : decode b_PT_idleLine 127 = .ok (.invokevirtual 177, 3) := by decide +kernel
theorem d_PT_idleLine_130 : decode b_PT_idleLine 130 = .ok (.invokevirtual 181, 3) := by decide +kernel
theorem d_PT_idleLine_133 : decode b_PT_idleLine 133 = .ok (.invokevirtual 185, 3) := by decide +kernel
theorem d_PT_idleLine_136 : decode b_PT_idleLine 136 = .ok (.goto 3, 3) := by decide +kernel
theorem d_PT_idleLine_139 : decode b_PT_idleLine 139 = .ok (.iconst 1, 1) := by decide +kernel
theorem d_PT_idleLine_140 : decode b_PT_idleLine 140 = .ok (.ireturn, 1) := by decide +kernel
theorem d_PT_idleLine_141 : decode b_PT_idleLine 141 = .ok (.aload_n 0, 1) := by decide +kernel
theorem d_PT_idleLine_142 : decode b_PT_idleLine 142 = .ok (.getfield 51, 3) := by decide +kernel
theorem d_PT_idleLine_145 : decode b_PT_idleLine 145 = .ok (.sipush 500, 3) := by decide +kernel
theorem d_PT_idleLine_148 : decode b_PT_idleLine 148 = .ok (.if_icmp .lt 15, 3) := by decide +kernel
theorem d_PT_idleLine_151 : decode b_PT_idleLine 151 = .ok (.aload_n 0, 1) := by decide +kernel
theorem d_PT_idleLine_152 : decode b_PT_idleLine 152 = .ok (.iconst 0, 1) := by decide +kernel
theorem d_PT_idleLine_153 : decode b_PT_idleLine 153 = .ok (.putfield 48, 3) := by decide +kernel
theorem d_PT_idleLine_156 : decode b_PT_idleLine 156 = .ok (.aload_n 0, 1) := by decide +kernel
theorem d_PT_idleLine_157 : decode b_PT_idleLine 157 = .ok (.iconst 5, 1) := by decide +kernel
theorem d_PT_idleLine_158 : decode b_PT_idleLine 158 = .ok (.putfield 34, 3) := by decide +kernel
theorem d_PT_idleLine_161 : decode b_PT_idleLine 161 = .ok (.iconst 1, 1) := by decide +kernel
theorem d_PT_idleLine_162 : decode b_PT_idleLine 162 = .ok (.ireturn, 1) := by decide +kernel
theorem d_PT_idleLine_163 : decode b_PT_idleLine 163 = .ok (.iconst 0, 1) := by decide +kernel
theorem d_PT_idleLine_164 : decode b_PT_idleLine 164 = .ok (.ireturn, 1) := by decide +kernel
theorem d_PT_send_0 : decode b_PT_send 0 = .ok (.aload_n 0, 1) := by decide +kernel
theorem d_PT_send_1 : decode b_PT_send 1 = .ok (.getfield 14, 3) := by decide +kernel
theorem d_PT_send_4 : decode b_PT_send 4 = .ok (.bipush 85, 2) := by decide +kernel
theorem d_PT_send_6 : decode b_PT_send 6 = .ok (.invokevirtual 116, 3) := by decide +kernel
theorem d_PT_send_9 : decode b_PT_send 9 = .ok (.aload_n 0, 1) := by decide +kernel
theorem d_PT_send_10 : decode b_PT_send 10 = .ok (.getfield 14, 3) := by decide +kernel
theorem d_PT_send_13 : decode b_PT_send 13 = .ok (.sipush 255, 3) := by decide +kernel
theorem d_PT_send_16 : decode b_PT_send 16 = .ok (.invokevirtual 116, 3) := by decide +kernel
theorem d_PT_send_19 : decode b_PT_send 19 = .ok (.aload_n 0, 1) := by decide +kernel
theorem d_PT_send_20 : decode b_PT_send 20 = .ok (.getfield 14, 3) := by decide +kernel
theorem d_PT_send_23 : decode b_PT_send 23 = .ok (.invokevirtual 102, 3) := by decide +kernel
theorem d_PT_send_26 : decode b_PT_send 26 = .ok (.istore 4, 2) := by decide +kernel
theorem d_PT_send_28 : decode b_PT_send 28 = .ok (.aload_n 0, 1) := by decide +kernel
theorem d_PT_send_29 : decode b_PT_send 29 = .ok (.getfield 14, 3) := by decide +kernel
theorem d_PT_send_32 : decode b_PT_send 32 = .ok (.iload_n 1, 1) := by decide +kernel
theorem d_PT_send_33 : decode b_PT_send 33 = .ok (.invokevirtual 116, 3) := by decide +kernel
theorem d_PT_send_36 : decode b_PT_send 36 = .ok (.aload_n 0, 1) := by decide +kernel
theorem d_PT_send_37 : decode b_PT_send 37 = .ok (.getfield 14, 3) := by decide +kernel
theorem d_PT_send_40 : decode b_PT_send 40 = .ok (.iload_n 2, 1) := by decide +kernel
theorem d_PT_send_41 : decode b_PT_send 41 = .ok (.invokevirtual 116, 3) := by decide +kernel
theorem d_PT_send_44 : decode b_PT_send 44 = .ok (.aload_n 0, 1) := by decide +kernel
theorem d_PT_send_45 : decode b_PT_send 45 = .ok (.getfield 14, 3) := by decide +kernel
theorem d_PT_send_48 : decode b_PT_send 48 = .ok (.aload_n 0, 1) := by decide +kernel
theorem d_PT_send_49 : decode b_PT_send 49 = .ok (.getfield 72, 3) := by decide +kernel
theorem d_PT_send_52 : decode b_PT_send 52 = .ok (.invokevirtual 116, 3) := by decide +kernel
theorem d_PT_send_55 : decode b_PT_send 55 = .ok (.aload_n 0, 1) := by decide +kernel
theorem d_PT_send_56 : decode b_PT_send 56 = .ok (.getfield 14, 3) := by decide +kernel
theorem d_PT_send_59 : decode b_PT_send 59 = .ok (.aload_n 3, 1) := by decide +kernel
theorem d_PT_send_60 : decode b_PT_send 60 = .ok (.invokevirtual 102, 3) := by decide +kernel
theorem d_PT_send_63 : decode b_PT_send 63 = .ok (.sipush 256, 3) := by decide +kernel
theorem d_PT_send_66 : decode b_PT_send 66 = .ok (.idiv, 1) := by decide +kernel
theorem d_PT_send_67 : decode b_PT_send 67 = .ok (.invokevirtual 116, 3) := by decide +kernel
theorem d_PT_send_70 : decode b_PT_send 70 = .ok (.aload_n 0, 1) := by decide +kernel
theorem d_PT_send_71 : decode b_PT_send 71 = .ok (.getfield 14, 3) := by decide +kernel
theorem d_PT_send_74 : decode b_PT_send 74 = .ok (.aload_n 3, 1) := by decide +kernel
theorem d_PT_send_75 : decode b_PT_send 75 = .ok (.invokevirtual 102, 3) := by decide +kernel
theorem d_PT_send_78 : decode b_PT_send 78 = .ok (.sipush 256, 3) := by decide +kernel
theorem d_PT_send_81 : decode b_PT_send 81 = .ok (.irem, 1) := by decide +kernel
theorem d_PT_send_82 : decode b_PT_send 82 = .ok (.invokevirtual 116, 3) := by decide +kernel
theorem d_PT_send_85 : decode b_PT_send 85 = .ok (.aload_n 0, 1) := by decide +kernel
theorem d_PT_send_86 : decode b_PT_send 86 = .ok (.getfield 14, 3) := by decide +kernel
theorem d_PT_send_89 : decode b_PT_send 89 = .ok (.aload_n 0, 1) := by decide +kernel
theorem d_PT_send_90 : decode b_PT_send 90 = .ok (.getfield 14, 3) := by decide +kernel
theorem d_PT_send_93 : decode b_PT_send 93 = .ok (.iload 4, 2) := by decide +kernel
theorem d_PT_send_95 : decode b_PT_send 95 = .ok (.invokestatic 204, 3) := by decide +kernel
theorem d_PT_send_98 : decode b_PT_send 98 = .ok (.invokevirtual 116, 3) := by decide +kernel
theorem d_PT_send_101 : decode b_PT_send 101 = .ok (.aload_n 3, 1) := by decide +kernel
theorem d_PT_send_102 : decode b_PT_send 102 = .ok (.invokevirtual 102, 3) := by decide +kernel
theorem d_PT_send_105 : decode b_PT_send 105 = .ok (.ifCond .le 43, 3) := by decide +kernel
theorem d_PT_send_108 : decode b_PT_send 108 = .ok (.aload_n 0, 1) := by decide +kernel
theorem d_PT_send_109 : decode b_PT_send 109 = .ok (.getfield 14, 3) := by decide +kernel
theorem d_PT_send_112 : decode b_PT_send 112 = .ok (.aload_n 3, 1) := by decide +kernel
theorem d_PT_send_113 : decode b_PT_send 113 = .ok (.invokevirtual 192, 3) := by decide +kernel
theorem d_PT_send_116 : decode b_PT_send 116 = .ok (.aload_n 3, 1) := by decide +kernel
theorem d_PT_send_117 : decode b_PT_send 117 = .ok (.invokestatic 210, 3) := by decide +kernel
theorem d_PT_send_120 : decode b_PT_send 120 = .ok (.istore 5, 2) := by decide +kernel
theorem d_PT_send_122 : decode b_PT_send 122 = .ok (.aload_n 0, 1) := by decide +kernel
theorem d_PT_send_123 : decode b_PT_send 123 = .ok (.getfield 14, 3) := by decide +kernel
theorem d_PT_send_126 : decode b_PT_send 126 = .ok (.iload 5, 2) := by decide +kernel
theorem d_PT_send_128 : decode b_PT_send 128 = .ok (.sipush 256, 3) := by decide +kernel
theorem d_PT_send_131 : decode b_PT_send 131 = .ok (.irem, 1) := by decide +kernel
theorem d_PT_send_132 : decode b_PT_send 132 = .ok (.invokevirtual 116, 3) := by decide +kernel
theorem d_PT_send_135 : decode b_PT_send 135 = .ok (.aload_n 0, 1) := by decide +kernel
theorem d_PT_send_136 : decode b_PT_send 136 = .ok (.getfield 14, 3) := by decide +kernel
theorem d_PT_send_139 : decode b_PT_send 139 = .ok (.iload 5, 2) := by decide +kernel
theorem d_PT_send_141 : decode b_PT_send 141 = .ok (.sipush 256, 3) := by decide +kernel
theorem d_PT_send_144 : decode b_PT_send 144 = .ok (.idiv, 1) := by decide +kernel
theorem d_PT_send_145 : decode b_PT_send 145 = .ok (.invokevirtual 116, 3) := by decide +kernel
theorem d_PT_send_148 : decode b_PT_send 148 = .ok (.aload_n 0, 1) := by decide +kernel
theorem d_PT_send_149 : decode b_PT_send 149 = .ok (.iconst 0, 1) := by decide +kernel
theorem d_PT_send_150 : decode b_PT_send 150 = .ok (.putfield 51, 3) := by decide +kernel
theorem d_PT_send_153 : decode b_PT_send 153 = .ok (.return_, 1) := by decide +kernel
theorem d_PT_sendAnswer_0 : decode b_PT_sendAnswer 0 = .ok (.aload_n 1, 1) := by decide +kernel
theorem d_PT_sendAnswer_1 : decode b_PT_sendAnswer 1 = .ok (.invokevirtual 102, 3) := by decide +kernel
theorem d_PT_sendAnswer_4 : decode b_PT_sendAnswer 4 = .ok (.ifCond .le 17, 3) := by decide +kernel
theorem d_PT_sendAnswer_7 : decode b_PT_sendAnswer 7 = .ok (.aload_n 0, 1) := by decide +kernel
theorem d_PT_sendAnswer_8 : decode b_PT_sendAnswer 8 = .ok (.bipush 6, 2) := by decide +kernel
theorem d_PT_sendAnswer_10 : decode b_PT_sendAnswer 10 = .ok (.aload_n 0, 1) := by decide +kernel
theorem d_PT_sendAnswer_11 : decode b_PT_sendAnswer 11 = .ok (.getfield 84, 3) := by decide +kernel
theorem d_PT_sendAnswer_14 : decode b_PT_sendAnswer 14 = .ok (.invokevirtual 170, 3) := by decide +kernel
theorem d_PT_sendAnswer_17 : decode b_PT_sendAnswer 17 = .ok (.aload_n 1, 1) := by decide +kernel
theorem d_PT_sendAnswer_18 : decode b_PT_sendAnswer 18 = .ok (.invokevirtual 173, 3) := by decide +kernel
theorem d_PT_sendAnswer_21 : decode b_PT_sendAnswer 21 = .ok (.return_, 1) := by decide +kernel
theorem d_PT_useLine_0 : decode b_PT_useLine 0 = .ok (.aload_n 0, 1) := by decide +kernel
theorem d_PT_useLine_1 : decode b_PT_useLine 1 = .ok (.getfield 57, 3) := by decide +kernel
theorem d_PT_useLine_4 : decode b_PT_useLine 4 = .ok (.ifCond .eq 29, 3) := by decide +kernel
theorem d_PT_useLine_7 : decode b_PT_useLine 7 = .ok (.aload_n 0, 1) := by decide +kernel
theorem d_PT_useLine_8 : decode b_PT_useLine 8 = .ok (.iconst 5, 1) := by decide +kernel
theorem d_PT_useLine_9 : decode b_PT_useLine 9 = .ok (.aload_n 0, 1) := by decide +kernel
theorem d_PT_useLine_10 : decode b_PT_useLine 10 = .ok (.getfield 54, 3) := by decide +kernel
theorem d_PT_useLine_13 : decode b_PT_useLine 13 = .ok (.aload_n 0, 1) := by decide +kernel
theorem d_PT_useLine_14 : decode b_PT_useLine 14 = .ok (.getfield 21, 3) := by decide +kernel
theorem d_PT_useLine_17 : decode b_PT_useLine 17 = .ok (.invokevirtual 173, 3) := by decide +kernel
theorem d_PT_useLine_20 : decode b_PT_useLine 20 = .ok (.aload_n 0, 1) := by decide +kernel
theorem d_PT_useLine_21 : decode b_PT_useLine 21 = .ok (.iconst 0, 1) := by decide +kernel
theorem d_PT_useLine_22 : decode b_PT_useLine 22 = .ok (.putfield 57, 3) := by decide +kernel
theorem d_PT_useLine_25 : decode b_PT_useLine 25 = .ok (.aload_n 0, 1) := by decide +kernel
theorem d_PT_useLine_26 : decode b_PT_useLine 26 = .ok (.iconst 2, 1) := by decide +kernel
theorem d_PT_useLine_27 : decode b_PT_useLine 27 = .ok (.putfield 34, 3) := by decide +kernel
theorem d_PT_useLine_30 : decode b_PT_useLine 30 = .ok (.goto 8, 3) := by decide +kernel
theorem d_PT_useLine_33 : decode b_PT_useLine 33 = .ok (.aload_n 0, 1) := by decide +kernel
theorem d_PT_useLine_34 : decode b_PT_useLine 34 = .ok (.iconst 3, 1) := by decide +kernel
theorem d_PT_useLine_35 : decode b_PT_useLine 35 = .ok (.putfield 34, 3) := by decide +kernel
theorem d_PT_useLine_38 : decode b_PT_useLine 38 = .ok (.iconst 1, 1) := by decide +kernel
theorem d_PT_useLine_39 : decode b_PT_useLine 39 = .ok (.ireturn, 1) := by decide +kernel
theorem d_PT_waitLine_0 : decode b_PT_waitLine 0 = .ok (.iload_n 1, 1) := by decide +kernel
theorem d_PT_waitLine_1 : decode b_PT_waitLine 1 = .ok (.iconst 1, 1) := by decide +kernel
theorem d_PT_waitLine_2 : decode b_PT_waitLine 2 = .ok (.if_icmp .ne 21, 3) := by decide +kernel
theorem d_PT_waitLine_5 : decode b_PT_waitLine 5 = .ok (.aload_n 0, 1) := by decide +kernel
theorem d_PT_waitLine_6 : decode b_PT_waitLine 6 = .ok (.aload_n 0, 1) := by decide +kernel
theorem d_PT_waitLine_7 : decode b_PT_waitLine 7 = .ok (.invokevirtual 189, 3) := by decide +kernel
theorem d_PT_waitLine_10 : decode b_PT_waitLine 10 = .ok (.ifCond .eq 7, 3) := by decide +kernel
theorem d_PT_waitLine_13 : decode b_PT_waitLine 13 = .ok (.iconst 3, 1) := by decide +kernel
theorem d_PT_waitLine_14 : decode b_PT_waitLine 14 = .ok (.goto 4, 3) := by decide +kernel
theorem d_PT_waitLine_17 : decode b_PT_waitLine 17 = .ok (.iconst 0, 1) := by decide +kernel
theorem d_PT_waitLine_18 : decode b_PT_waitLine 18 = .ok (.putfield 34, 3) := by decide +kernel
theorem d_PT_waitLine_21 : decode b_PT_waitLine 21 = .ok (.iconst 1, 1) := by decide +kernel
theorem d_PT_waitLine_22 : decode b_PT_waitLine 22 = .ok (.ireturn, 1) := by decide +kernel
theorem d_PT_waitLine_23 : decode b_PT_waitLine 23 = .ok (.iload_n 1, 1) := by decide +kernel
theorem d_PT_waitLine_24 : decode b_PT_waitLine 24 = .ok (.iconst 2, 1) := by decide +kernel
theorem d_PT_waitLine_25 : decode b_PT_waitLine 25 = .ok (.if_icmp .eq 13, 3) := by decide +kernel
theorem d_PT_waitLine_28 : decode b_PT_waitLine 28 = .ok (.aload_n 0, 1) := by decide +kernel
theorem d_PT_waitLine_29 : decode b_PT_waitLine 29 = .ok (.getfield 51, 3) := by decide +kernel
theorem d_PT_waitLine_32 : decode b_PT_waitLine 32 = .ok (.sipush 255, 3) := by decide +kernel
theorem d_PT_waitLine_35 : decode b_PT_waitLine 35 = .ok (.if_icmp .lt 10, 3) := by decide +kernel
theorem d_PT_waitLine_38 : decode b_PT_waitLine 38 = .ok (.aload_n 0, 1) := by decide +kernel
theorem d_PT_waitLine_39 : decode b_PT_waitLine 39 = .ok (.iconst 3, 1) := by decide +kernel
theorem d_PT_waitLine_40 : decode b_PT_waitLine 40 = .ok (.putfield 34, 3) := by decide +kernel
theorem d_PT_waitLine_43 : decode b_PT_waitLine 43 = .ok (.iconst 1, 1) := by decide +kernel
theorem d_PT_waitLine_44 : decode b_PT_waitLine 44 = .ok (.ireturn, 1) := by decide +kernel
theorem d_PT_waitLine_45 : decode b_PT_waitLine 45 = .ok (.iconst 0, 1) := by decide +kernel
theorem d_PT_waitLine_46 : decode b_PT_waitLine 46 = .ok (.ireturn, 1) := by decide +kernel
theorem d_PT_endsWaiting_0 : decode b_PT_endsWaiting 0 = .ok (.aload_n 0, 1) := by decide +kernel
theorem d_PT_endsWaiting_1 : decode b_PT_endsWaiting 1 = .ok (.getfield 84, 3) := by decide +kernel
theorem d_PT_endsWaiting_4 : decode b_PT_endsWaiting 4 = .ok (.invokevirtual 164, 3) := by decide +kernel
theorem d_PT_endsWaiting_7 : decode b_PT_endsWaiting 7 = .ok (.aload_n 0, 1) := by decide +kernel
theorem d_PT_endsWaiting_8 : decode b_PT_endsWaiting 8 = .ok (.getfield 72, 3) := by decide +kernel
theorem d_PT_endsWaiting_11 : decode b_PT_endsWaiting 11 = .ok (.if_icmp .eq 5, 3) := by decide +kernel
theorem d_PT_endsWaiting_14 : decode b_PT_endsWaiting 14 = .ok (.iconst 0, 1) := by decide +kernel
theorem d_PT_endsWaiting_15 : decode b_PT_endsWaiting 15 = .ok (.ireturn, 1) := by decide +kernel
theorem d_PT_endsWaiting_16 : decode b_PT_endsWaiting 16 = .ok (.aload_n 0, 1) := by decide +kernel
theorem d_PT_endsWaiting_17 : decode b_PT_endsWaiting 17 = .ok (.getfield 84, 3) := by decide +kernel
theorem d_PT_endsWaiting_20 : decode b_PT_endsWaiting 20 = .ok (.invokevirtual 167, 3) := by decide +kernel
theorem d_PT_endsWaiting_23 : decode b_PT_endsWaiting 23 = .ok (.bipush 6, 2) := by decide +kernel
theorem d_PT_endsWaiting_25 : decode b_PT_endsWaiting 25 = .ok (.if_icmp .ne 26, 3) := by decide +kernel
theorem d_PT_endsWaiting_28 : decode b_PT_endsWaiting 28 = .ok (.aload_n 0, 1) := by decide +kernel
theorem d_PT_endsWaiting_29 : decode b_PT_endsWaiting 29 = .ok (.getfield 24, 3) := by decide +kernel
theorem d_PT_endsWaiting_32 : decode b_PT_endsWaiting 32 = .ok (.invokevirtual 92, 3) := by decide +kernel
theorem d_PT_endsWaiting_35 : decode b_PT_endsWaiting 35 = .ok (.aload_n 0, 1) := by decide +kernel
theorem d_PT_endsWaiting_36 : decode b_PT_endsWaiting 36 = .ok (.getfield 24, 3) := by decide +kernel
theorem d_PT_endsWaiting_39 : decode b_PT_endsWaiting 39 = .ok (.aload_n 0, 1) := by decide +kernel
theorem d_PT_endsWaiting_40 : decode b_PT_endsWaiting 40 = .ok (.getfield 84, 3) := by decide +kernel
theorem d_PT_endsWaiting_43 : decode b_PT_endsWaiting 43 = .ok (.invokevirtual 177, 3) := by decide +kernel
theorem d_PT_endsWaiting_46 : decode b_PT_endsWaiting 46 = .ok (.invokevirtual 192, 3) := by decide +kernel
theorem d_PT_endsWaiting_49 : decode b_PT_endsWaiting 49 = .ok (.iconst 1, 1) := by decide +kernel
theorem d_PT_endsWaiting_50 : decode b_PT_endsWaiting 50 = .ok (.ireturn, 1) := by decide +kernel
theorem d_PT_endsWaiting_51 : decode b_PT_endsWaiting 51 = .ok (.aload_n 0, 1) := by decide +kernel
theorem d_PT_endsWaiting_52 : decode b_PT_endsWaiting 52 = .ok (.getfield 84, 3) := by decide +kernel
theorem d_PT_endsWaiting_55 : decode b_PT_endsWaiting 55 = .ok (.invokevirtual 167, 3) := by decide +kernel
theorem d_PT_endsWaiting_58 : decode b_PT_endsWaiting 58 = .ok (.iconst 4, 1) := by decide +kernel
theorem d_PT_endsWaiting_59 : decode b_PT_endsWaiting 59 = .ok (.if_icmp .eq 15, 3) := by decide +kernel
theorem d_PT_endsWaiting_62 : decode b_PT_endsWaiting 62 = .ok (.aload_n 0, 1) := by decide +kernel
theorem d_PT_endsWaiting_63 : decode b_PT_endsWaiting 63 = .ok (.getfield 84, 3) := by decide +kernel
theorem d_PT_endsWaiting_66 : decode b_PT_endsWaiting 66 = .ok (.invokevirtual 167, 3) := by decide +kernel
theorem d_PT_endsWaiting_69 : decode b_PT_endsWaiting 69 = .ok (.bipush 7, 2) := by decide +kernel
theorem d_PT_endsWaiting_71 : decode b_PT_endsWaiting 71 = .ok (.if_icmp .ne 7, 3) := by decide +kernel
theorem d_PT_endsWaiting_74 : decode b_PT_endsWaiting 74 = .ok (.iconst 1, 1) := by decide +kernel
theorem d_PT_endsWaiting_75 : decode b_PT_endsWaiting 75 = .ok (.goto 4, 3) := by decide +kernel
theorem d_PT_endsWaiting_78 : decode b_PT_endsWaiting 78 = .ok (.iconst 0, 1) := by decide +kernel
theorem d_PT_endsWaiting_79 : decode b_PT_endsWaiting 79 = .ok (.ireturn, 1) := by decide +kernel
theorem d_PT_doneLine_0 : decode b_PT_doneLine 0 = .ok (.aload_n 0, 1) := by decide +kernel
theorem d_PT_doneLine_1 : decode b_PT_doneLine 1 = .ok (.getfield 44, 3) := by decide +kernel
theorem d_PT_doneLine_4 : decode b_PT_doneLine 4 = .ok (.ifCond .ne 29, 3) := by decide +kernel
theorem d_PT_doneLine_7 : decode b_PT_doneLine 7 = .ok (.aload_n 0, 1) := by decide +kernel
theorem d_PT_doneLine_8 : decode b_PT_doneLine 8 = .ok (.getfield 75, 3) := by decide +kernel
theorem d_PT_doneLine_11 : decode b_PT_doneLine 11 = .ok (.aload_n 0, 1) := by decide +kernel
theorem d_PT_doneLine_12 : decode b_PT_doneLine 12 = .ok (.getfield 72, 3) := by decide +kernel
theorem d_PT_doneLine_15 : decode b_PT_doneLine 15 = .ok (.if_icmp .ne 18, 3) := by decide +kernel
theorem d_PT_doneLine_18 : decode b_PT_doneLine 18 = .ok (.aload_n 0, 1) := by decide +kernel
theorem d_PT_doneLine_19 : decode b_PT_doneLine 19 = .ok (.aload_n 0, 1) := by decide +kernel
theorem d_PT_doneLine_20 : decode b_PT_doneLine 20 = .ok (.aload_n 0, 1) := by decide +kernel
theorem d_PT_doneLine_21 : decode b_PT_doneLine 21 = .ok (.getfield 72, 3) := by decide +kernel
theorem d_PT_doneLine_24 : decode b_PT_doneLine 24 = .ok (.invokevirtual 195, 3) := by decide +kernel
theorem d_PT_doneLine_27 : decode b_PT_doneLine 27 = .ok (.invokevirtual 198, 3) := by decide +kernel
theorem d_PT_doneLine_30 : decode b_PT_doneLine 30 = .ok (.goto 127, 3) := by decide +kernel
theorem d_PT_doneLine_33 : decode b_PT_doneLine 33 = .ok (.aload_n 0, 1) := by decide +kernel
theorem d_PT_doneLine_34 : decode b_PT_doneLine 34 = .ok (.getfield 38, 3) := by decide +kernel
theorem d_PT_doneLine_37 : decode b_PT_doneLine 37 = .ok (.iconst 3, 1) := by decide +kernel
theorem d_PT_doneLine_38 : decode b_PT_doneLine 38 = .ok (.if_icmp .ge 36, 3) := by decide +kernel
theorem d_PT_doneLine_41 : decode b_PT_doneLine 41 = .ok (.aload_n 0, 1) := by decide +kernel
theorem d_PT_doneLine_42 : decode b_PT_doneLine 42 = .ok (.dup, 1) := by decide +kernel
theorem d_PT_doneLine_43 : decode b_PT_doneLine 43 = .ok (.getfield 38, 3) := by decide +kernel
theorem d_PT_doneLine_46 : decode b_PT_doneLine 46 = .ok (.iconst 1, 1) := by decide +kernel
theorem d_PT_doneLine_47 : decode b_PT_doneLine 47 = .ok (.iadd, 1) := by decide +kernel
theorem d_PT_doneLine_48 : decode b_PT_doneLine 48 = .ok (.putfield 38, 3) := by decide +kernel
theorem d_PT_doneLine_51 : decode b_PT_doneLine 51 = .ok (.aload_n 0, 1) := by decide +kernel
theorem d_PT_doneLine_52 : decode b_PT_doneLine 52 = .ok (.getfield 44, 3) := by decide +kernel
theorem d_PT_doneLine_55 : decode b_PT_doneLine 55 = .ok (.ifCond .eq 11, 3) := by decide +kernel
theorem d_PT_doneLine_58 : decode b_PT_doneLine 58 = .ok (.aload_n 0, 1) := by decide +kernel
theorem d_PT_doneLine_59 : decode b_PT_doneLine 59 = .ok (.iconst 1, 1) := by decide +kernel
theorem d_PT_doneLine_60 : decode b_PT_doneLine 60 = .ok (.putfield 34, 3) := by decide +kernel
theorem d_PT_doneLine_63 : decode b_PT_doneLine 63 = .ok (.goto 94, 3) := by decide +kernel
theorem d_PT_doneLine_66 : decode b_PT_doneLine 66 = .ok (.aload_n 0, 1) := by decide +kernel
theorem d_PT_doneLine_67 : decode b_PT_doneLine 67 = .ok (.iconst 0, 1) := by decide +kernel
theorem d_PT_doneLine_68 : decode b_PT_doneLine 68 = .ok (.invokevirtual 201, 3) := by decide +kernel
theorem d_PT_doneLine_71 : decode b_PT_doneLine 71 = .ok (.goto 86, 3) := by decide +kernel
theorem d_PT_doneLine_74 : decode b_PT_doneLine 74 = .ok (.aload_n 0, 1) := by decide +kernel
theorem d_PT_doneLine_75 : decode b_PT_doneLine 75 = .ok (.aload_n 0, 1) := by decide +kernel
theorem d_PT_doneLine_76 : decode b_PT_doneLine 76 = .ok (.getfield 78, 3) := by decide +kernel
theorem d_PT_doneLine_79 : decode b_PT_doneLine 79 = .ok (.invokevirtual 195, 3) := by decide +kernel
theorem d_PT_doneLine_82 : decode b_PT_doneLine 82 = .ok (.aload_n 0, 1) := by decide +kernel
theorem d_PT_doneLine_83 : decode b_PT_doneLine 83 = .ok (.getfield 75, 3) := by decide +kernel
theorem d_PT_doneLine_86 : decode b_PT_doneLine 86 = .ok (.if_icmp .eq 18, 3) := by decide +kernel
theorem d_PT_doneLine_89 : decode b_PT_doneLine 89 = .ok (.aload_n 0, 1) := by decide +kernel
theorem d_PT_doneLine_90 : decode b_PT_doneLine 90 = .ok (.aload_n 0, 1) := by decide +kernel
theorem d_PT_doneLine_91 : decode b_PT_doneLine 91 = .ok (.aload_n 0, 1) := by decide +kernel
theorem d_PT_doneLine_92 : decode b_PT_doneLine 92 = .ok (.getfield 78, 3) := by decide +kernel
theorem d_PT_doneLine_95 : decode b_PT_doneLine 95 = .ok (.invokevirtual 195, 3) := by decide +kernel
theorem d_PT_doneLine_98 : decode b_PT_doneLine 98 = .ok (.invokevirtual 198, 3) := by decide +kernel
theorem d_PT_doneLine_101 : decode b_PT_doneLine 101 = .ok (.goto 56, 3) := by decide +kernel
theorem d_PT_doneLine_104 : decode b_PT_doneLine 104 = .ok (.aload_n 0, 1) := by decide +kernel
theorem d_PT_doneLine_105 : decode b_PT_doneLine 105 = .ok (.getfield 44, 3) := by decide +kernel
theorem d_PT_doneLine_108 : decode b_PT_doneLine 108 = .ok (.ifCond .eq 31, 3) := by decide +kernel
theorem d_PT_doneLine_111 : decode b_PT_doneLine 111 = .ok (.aload_n 0, 1) := by decide +kernel
theorem d_PT_doneLine_112 : decode b_PT_doneLine 112 = .ok (.aload_n 0, 1) := by decide +kernel
theorem d_PT_doneLine_113 : decode b_PT_doneLine 113 = .ok (.aload_n 0, 1) := by decide +kernel
theorem d_PT_doneLine_114 : decode b_PT_doneLine 114 = .ok (.getfield 75, 3) := by decide +kernel
theorem d_PT_doneLine_117 : decode b_PT_doneLine 117 = .ok (.invokevirtual 195, 3) := by decide +kernel
theorem d_PT_doneLine_120 : decode b_PT_doneLine 120 = .ok (.invokevirtual 198, 3) := by decide +kernel
theorem d_PT_doneLine_123 : decode b_PT_doneLine 123 = .ok (.aload_n 0, 1) := by decide +kernel
theorem d_PT_doneLine_124 : decode b_PT_doneLine 124 = .ok (.aload_n 0, 1) := by decide +kernel
theorem d_PT_doneLine_125 : decode b_PT_doneLine 125 = .ok (.getfield 72, 3) := by decide +kernel
theorem d_PT_doneLine_128 : decode b_PT_doneLine 128 = .ok (.putfield 75, 3) := by decide +kernel
theorem d_PT_doneLine_131 : decode b_PT_doneLine 131 = .ok (.aload_n 0, 1) := by decide +kernel
theorem d_PT_doneLine_132 : decode b_PT_doneLine 132 = .ok (.iconst 1, 1) := by decide +kernel
theorem d_PT_doneLine_133 : decode b_PT_doneLine 133 = .ok (.putfield 38, 3) := by decide +kernel
theorem d_PT_doneLine_136 : decode b_PT_doneLine 136 = .ok (.goto 21, 3) := by decide +kernel
theorem d_PT_doneLine_139 : decode b_PT_doneLine 139 = .ok (.aload_n 0, 1) := by decide +kernel
theorem d_PT_doneLine_140 : decode b_PT_doneLine 140 = .ok (.aload_n 0, 1) := by decide +kernel
theorem d_PT_doneLine_141 : decode b_PT_doneLine 141 = .ok (.getfield 72, 3) := by decide +kernel
theorem d_PT_doneLine_144 : decode b_PT_doneLine 144 = .ok (.putfield 78, 3) := by decide +kernel
theorem d_PT_doneLine_147 : decode b_PT_doneLine 147 = .ok (.aload_n 0, 1) := by decide +kernel
theorem d_PT_doneLine_148 : decode b_PT_doneLine 148 = .ok (.iconst 1, 1) := by decide +kernel
theorem d_PT_doneLine_149 : decode b_PT_doneLine 149 = .ok (.putfield 38, 3) := by decide +kernel
theorem d_PT_doneLine_152 : decode b_PT_doneLine 152 = .ok (.aload_n 0, 1) := by decide +kernel
theorem d_PT_doneLine_153 : decode b_PT_doneLine 153 = .ok (.iconst 0, 1) := by decide +kernel
theorem d_PT_doneLine_154 : decode b_PT_doneLine 154 = .ok (.invokevirtual 201, 3) := by decide +kernel
theorem d_PT_doneLine_157 : decode b_PT_doneLine 157 = .ok (.iconst 1, 1) := by decide +kernel
theorem d_PT_doneLine_158 : decode b_PT_doneLine 158 = .ok (.ireturn, 1) := by decide +kernel
theorem d_PT_behind_0 : decode b_PT_behind 0 = .ok (.iload_n 1, 1) := by decide +kernel
theorem d_PT_behind_1 : decode b_PT_behind 1 = .ok (.aload_n 0, 1) := by decide +kernel
theorem d_PT_behind_2 : decode b_PT_behind 2 = .ok (.getfield 69, 3) := by decide +kernel
theorem d_PT_behind_5 : decode b_PT_behind 5 = .ok (.if_icmp .lt 7, 3) := by decide +kernel
theorem d_PT_behind_8 : decode b_PT_behind 8 = .ok (.iconst 0, 1) := by decide +kernel
theorem d_PT_behind_9 : decode b_PT_behind 9 = .ok (.goto 6, 3) := by decide +kernel
theorem d_PT_behind_12 : decode b_PT_behind 12 = .ok (.iload_n 1, 1) := by decide +kernel
theorem d_PT_behind_13 : decode b_PT_behind 13 = .ok (.iconst 1, 1) := by decide +kernel
theorem d_PT_behind_14 : decode b_PT_behind 14 = .ok (.iadd, 1) := by decide +kernel
theorem d_PT_behind_15 : decode b_PT_behind 15 = .ok (.ireturn, 1) := by decide +kernel
theorem d_PT_poll_0 : decode b_PT_poll 0 = .ok (.aload_n 0, 1) := by decide +kernel
theorem d_PT_poll_1 : decode b_PT_poll 1 = .ok (.iload_n 1, 1) := by decide +kernel
theorem d_PT_poll_2 : decode b_PT_poll 2 = .ok (.putfield 78, 3) := by decide +kernel
theorem d_PT_poll_5 : decode b_PT_poll 5 = .ok (.aload_n 0, 1) := by decide +kernel
theorem d_PT_poll_6 : decode b_PT_poll 6 = .ok (.iconst 1, 1) := by decide +kernel
theorem d_PT_poll_7 : decode b_PT_poll 7 = .ok (.iload_n 1, 1) := by decide +kernel
theorem d_PT_poll_8 : decode b_PT_poll 8 = .ok (.aload_n 0, 1) := by decide +kernel
theorem d_PT_poll_9 : decode b_PT_poll 9 = .ok (.getfield 18, 3) := by decide +kernel
theorem d_PT_poll_12 : decode b_PT_poll 12 = .ok (.invokevirtual 173, 3) := by decide +kernel
theorem d_PT_poll_15 : decode b_PT_poll 15 = .ok (.aload_n 0, 1) := by decide +kernel
theorem d_PT_poll_16 : decode b_PT_poll 16 = .ok (.bipush 6, 2) := by decide +kernel
theorem d_PT_poll_18 : decode b_PT_poll 18 = .ok (.putfield 34, 3) := by decide +kernel
theorem d_PT_poll_21 : decode b_PT_poll 21 = .ok (.return_, 1) := by decide +kernel
theorem d_PT_pass_0 : decode b_PT_pass 0 = .ok (.aload_n 0, 1) := by decide +kernel
theorem d_PT_pass_1 : decode b_PT_pass 1 = .ok (.iload_n 1, 1) := by decide +kernel
theorem d_PT_pass_2 : decode b_PT_pass 2 = .ok (.putfield 41, 3) := by decide +kernel
theorem d_PT_pass_5 : decode b_PT_pass 5 = .ok (.aload_n 0, 1) := by decide +kernel
theorem d_PT_pass_6 : decode b_PT_pass 6 = .ok (.iconst 0, 1) := by decide +kernel
theorem d_PT_pass_7 : decode b_PT_pass 7 = .ok (.aload_n 0, 1) := by decide +kernel
theorem d_PT_pass_8 : decode b_PT_pass 8 = .ok (.getfield 75, 3) := by decide +kernel
theorem d_PT_pass_11 : decode b_PT_pass 11 = .ok (.aload_n 0, 1) := by decide +kernel
theorem d_PT_pass_12 : decode b_PT_pass 12 = .ok (.getfield 18, 3) := by decide +kernel
theorem d_PT_pass_15 : decode b_PT_pass 15 = .ok (.invokevirtual 173, 3) := by decide +kernel
theorem d_PT_pass_18 : decode b_PT_pass 18 = .ok (.aload_n 0, 1) := by decide +kernel
theorem d_PT_pass_19 : decode b_PT_pass 19 = .ok (.iconst 0, 1) := by decide +kernel
theorem d_PT_pass_20 : decode b_PT_pass 20 = .ok (.putfield 48, 3) := by decide +kernel
theorem d_PT_pass_23 : decode b_PT_pass 23 = .ok (.aload_n 0, 1) := by decide +kernel
theorem d_PT_pass_24 : decode b_PT_pass 24 = .ok (.iconst 4, 1) := by decide +kernel
theorem d_PT_pass_25 : decode b_PT_pass 25 = .ok (.putfield 34, 3) := by decide +kernel
theorem d_PT_pass_28 : decode b_PT_pass 28 = .ok (.return_, 1) := by decide +kernel
theorem d_PT_passingLine_0 : decode b_PT_passingLine 0 = .ok (.aload_n 0, 1) := by decide +kernel
theorem d_PT_passingLine_1 : decode b_PT_passingLine 1 = .ok (.getfield 51, 3) := by decide +kernel
theorem d_PT_passingLine_4 : decode b_PT_passingLine 4 = .ok (.bipush 20, 2) := by decide +kernel
theorem d_PT_passingLine_6 : decode b_PT_passingLine 6 = .ok (.if_icmp .ge 20, 3) := by decide +kernel
theorem d_PT_passingLine_9 : decode b_PT_passingLine 9 = .ok (.aload_n 0, 1) := by decide +kernel
theorem d_PT_passingLine_10 : decode b_PT_passingLine 10 = .ok (.getfield 48, 3) := by decide +kernel
theorem d_PT_passingLine_13 : decode b_PT_passingLine 13 = .ok (.iconst 4, 1) := by decide +kernel
theorem d_PT_passingLine_14 : decode b_PT_passingLine 14 = .ok (.if_icmp .le 10, 3) := by decide +kernel
theorem d_PT_passingLine_17 : decode b_PT_passingLine 17 = .ok (.aload_n 0, 1) := by decide +kernel
theorem d_PT_passingLine_18 : decode b_PT_passingLine 18 = .ok (.iconst 0, 1) := by decide +kernel
theorem d_PT_passingLine_19 : decode b_PT_passingLine 19 = .ok (.putfield 34, 3) := by decide +kernel
theorem d_PT_passingLine_22 : decode b_PT_passingLine 22 = .ok (.iconst 1, 1) := by decide +kernel
theorem d_PT_passingLine_23 : decode b_PT_passingLine 23 = .ok (.ireturn, 1) := by decide +kernel
theorem d_PT_passingLine_24 : decode b_PT_passingLine 24 = .ok (.iconst 0, 1) := by decide +kernel
theorem d_PT_passingLine_25 : decode b_PT_passingLine 25 = .ok (.ireturn, 1) := by decide +kernel
theorem d_PT_passingLine_26 : decode b_PT_passingLine 26 = .ok (.aload_n 0, 1) := by decide +kernel
theorem d_PT_passingLine_27 : decode b_PT_passingLine 27 = .ok (.getfield 41, 3) := by decide +kernel
theorem d_PT_passingLine_30 : decode b_PT_passingLine 30 = .ok (.ifCond .ne 11, 3) := by decide +kernel
theorem d_PT_passingLine_33 : decode b_PT_passingLine 33 = .ok (.aload_n 0, 1) := by decide +kernel
theorem d_PT_passingLine_34 : decode b_PT_passingLine 34 = .ok (.iconst 1, 1) := by decide +kernel
theorem d_PT_passingLine_35 : decode b_PT_passingLine 35 = .ok (.invokevirtual 201, 3) := by decide +kernel
theorem d_PT_passingLine_38 : decode b_PT_passingLine 38 = .ok (.goto 28, 3) := by decide +kernel
theorem d_PT_passingLine_41 : decode b_PT_passingLine 41 = .ok (.aload_n 0, 1) := by decide +kernel
theorem d_PT_passingLine_42 : decode b_PT_passingLine 42 = .ok (.aload_n 0, 1) := by decide +kernel
theorem d_PT_passingLine_43 : decode b_PT_passingLine 43 = .ok (.aload_n 0, 1) := by decide +kernel
theorem d_PT_passingLine_44 : decode b_PT_passingLine 44 = .ok (.getfield 75, 3) := by decide +kernel
theorem d_PT_passingLine_47 : decode b_PT_passingLine 47 = .ok (.invokevirtual 195, 3) := by decide +kernel
theorem d_PT_passingLine_50 : decode b_PT_passingLine 50 = .ok (.invokevirtual 198, 3) := by decide +kernel
theorem d_PT_passingLine_53 : decode b_PT_passingLine 53 = .ok (.aload_n 0, 1) := by decide +kernel
theorem d_PT_passingLine_54 : decode b_PT_passingLine 54 = .ok (.aload_n 0, 1) := by decide +kernel
theorem d_PT_passingLine_55 : decode b_PT_passingLine 55 = .ok (.getfield 72, 3) := by decide +kernel
theorem d_PT_passingLine_58 : decode b_PT_passingLine 58 = .ok (.putfield 75, 3) := by decide +kernel
theorem d_PT_passingLine_61 : decode b_PT_passingLine 61 = .ok (.aload_n 0, 1) := by decide +kernel
theorem d_PT_passingLine_62 : decode b_PT_passingLine 62 = .ok (.iconst 0, 1) := by decide +kernel
theorem d_PT_passingLine_63 : decode b_PT_passingLine 63 = .ok (.putfield 38, 3) := by decide +kernel
theorem d_PT_passingLine_66 : decode b_PT_passingLine 66 = .ok (.iconst 1, 1) := by decide +kernel
theorem d_PT_passingLine_67 : decode b_PT_passingLine 67 = .ok (.ireturn, 1) := by decide +kernel
theorem d_PT_lostLine_0 : decode b_PT_lostLine 0 = .ok (.aload_n 0, 1) := by decide +kernel
theorem d_PT_lostLine_1 : decode b_PT_lostLine 1 = .ok (.getfield 48, 3) := by decide +kernel
theorem d_PT_lostLine_4 : decode b_PT_lostLine 4 = .ok (.iconst 4, 1) := by decide +kernel
theorem d_PT_lostLine_5 : decode b_PT_lostLine 5 = .ok (.if_icmp .le 10, 3) := by decide +kernel
theorem d_PT_lostLine_8 : decode b_PT_lostLine 8 = .ok (.aload_n 0, 1) := by decide +kernel
theorem d_PT_lostLine_9 : decode b_PT_lostLine 9 = .ok (.iconst 0, 1) := by decide +kernel
theorem d_PT_lostLine_10 : decode b_PT_lostLine 10 = .ok (.putfield 34, 3) := by decide +kernel
theorem d_PT_lostLine_13 : decode b_PT_lostLine 13 = .ok (.iconst 1, 1) := by decide +kernel
theorem d_PT_lostLine_14 : decode b_PT_lostLine 14 = .ok (.ireturn, 1) := by decide +kernel
theorem d_PT_lostLine_15 : decode b_PT_lostLine 15 = .ok (.aload_n 0, 1) := by decide +kernel
theorem d_PT_lostLine_16 : decode b_PT_lostLine 16 = .ok (.getfield 51, 3) := by decide +kernel
theorem d_PT_lostLine_19 : decode b_PT_lostLine 19 = .ok (.sipush 500, 3) := by decide +kernel
theorem d_PT_lostLine_22 : decode b_PT_lostLine 22 = .ok (.bipush 10, 2) := by decide +kernel
theorem d_PT_lostLine_24 : decode b_PT_lostLine 24 = .ok (.aload_n 0, 1) := by decide +kernel
theorem d_PT_lostLine_25 : decode b_PT_lostLine 25 = .ok (.getfield 72, 3) := by decide +kernel
theorem d_PT_lostLine_28 : decode b_PT_lostLine 28 = .ok (.imul, 1) := by decide +kernel
theorem d_PT_lostLine_29 : decode b_PT_lostLine 29 = .ok (.iadd, 1) := by decide +kernel
theorem d_PT_lostLine_30 : decode b_PT_lostLine 30 = .ok (.if_icmp .lt 30, 3) := by decide +kernel
theorem d_PT_lostLine_33 : decode b_PT_lostLine 33 = .ok (.aload_n 0, 1) := by decide +kernel
theorem d_PT_lostLine_34 : decode b_PT_lostLine 34 = .ok (.aload_n 0, 1) := by decide +kernel
theorem d_PT_lostLine_35 : decode b_PT_lostLine 35 = .ok (.aload_n 0, 1) := by decide +kernel
theorem d_PT_lostLine_36 : decode b_PT_lostLine 36 = .ok (.getfield 72, 3) := by decide +kernel
theorem d_PT_lostLine_39 : decode b_PT_lostLine 39 = .ok (.invokevirtual 195, 3) := by decide +kernel
theorem d_PT_lostLine_42 : decode b_PT_lostLine 42 = .ok (.invokevirtual 198, 3) := by decide +kernel
theorem d_PT_lostLine_45 : decode b_PT_lostLine 45 = .ok (.aload_n 0, 1) := by decide +kernel
theorem d_PT_lostLine_46 : decode b_PT_lostLine 46 = .ok (.aload_n 0, 1) := by decide +kernel
theorem d_PT_lostLine_47 : decode b_PT_lostLine 47 = .ok (.getfield 72, 3) := by decide +kernel
theorem d_PT_lostLine_50 : decode b_PT_lostLine 50 = .ok (.putfield 75, 3) := by decide +kernel
theorem d_PT_lostLine_53 : decode b_PT_lostLine 53 = .ok (.aload_n 0, 1) := by decide +kernel
theorem d_PT_lostLine_54 : decode b_PT_lostLine 54 = .ok (.iconst 0, 1) := by decide +kernel
theorem d_PT_lostLine_55 : decode b_PT_lostLine 55 = .ok (.putfield 38, 3) := by decide +kernel
theorem d_PT_lostLine_58 : decode b_PT_lostLine 58 = .ok (.iconst 1, 1) := by decide +kernel
theorem d_PT_lostLine_59 : decode b_PT_lostLine 59 = .ok (.ireturn, 1) := by decide +kernel
theorem d_PT_lostLine_60 : decode b_PT_lostLine 60 = .ok (.iconst 0, 1) := by decide +kernel
theorem d_PT_lostLine_61 : decode b_PT_lostLine 61 = .ok (.ireturn, 1) := by decide +kernel
theorem d_PT_answeredLine_0 : decode b_PT_answeredLine 0 = .ok (.aload_n 0, 1) := by decide +kernel
theorem d_PT_answeredLine_1 : decode b_PT_answeredLine 1 = .ok (.getfield 84, 3) := by decide +kernel
theorem d_PT_answeredLine_4 : decode b_PT_answeredLine 4 = .ok (.invokevirtual 164, 3) := by decide +kernel
theorem d_PT_answeredLine_7 : decode b_PT_answeredLine 7 = .ok (.aload_n 0, 1) := by decide +kernel
theorem d_PT_answeredLine_8 : decode b_PT_answeredLine 8 = .ok (.getfield 72, 3) := by decide +kernel
theorem d_PT_answeredLine_11 : decode b_PT_answeredLine 11 = .ok (.if_icmp .ne 65, 3) := by decide +kernel
theorem d_PT_answeredLine_14 : decode b_PT_answeredLine 14 = .ok (.aload_n 0, 1) := by decide +kernel
theorem d_PT_answeredLine_15 : decode b_PT_answeredLine 15 = .ok (.getfield 84, 3) := by decide +kernel
theorem d_PT_answeredLine_18 : decode b_PT_answeredLine 18 = .ok (.invokevirtual 167, 3) := by decide +kernel
theorem d_PT_answeredLine_21 : decode b_PT_answeredLine 21 = .ok (.iconst 2, 1) := by decide +kernel
theorem d_PT_answeredLine_22 : decode b_PT_answeredLine 22 = .ok (.if_icmp .ne 54, 3) := by decide +kernel
theorem d_PT_answeredLine_25 : decode b_PT_answeredLine 25 = .ok (.aload_n 0, 1) := by decide +kernel
theorem d_PT_answeredLine_26 : decode b_PT_answeredLine 26 = .ok (.aload_n 0, 1) := by decide +kernel
theorem d_PT_answeredLine_27 : decode b_PT_answeredLine 27 = .ok (.getfield 84, 3) := by decide +kernel
theorem d_PT_answeredLine_30 : decode b_PT_answeredLine 30 = .ok (.invokevirtual 170, 3) := by decide +kernel
theorem d_PT_answeredLine_33 : decode b_PT_answeredLine 33 = .ok (.invokevirtual 112, 3) := by decide +kernel
theorem d_PT_answeredLine_36 : decode b_PT_answeredLine 36 = .ok (.ifCond .eq 40, 3) := by decide +kernel
theorem d_PT_answeredLine_39 : decode b_PT_answeredLine 39 = .ok (.aload_n 0, 1) := by decide +kernel
theorem d_PT_answeredLine_40 : decode b_PT_answeredLine 40 = .ok (.iconst 0, 1) := by decide +kernel
theorem d_PT_answeredLine_41 : decode b_PT_answeredLine 41 = .ok (.putfield 44, 3) := by decide +kernel
theorem d_PT_answeredLine_44 : decode b_PT_answeredLine 44 = .ok (.aload_n 0, 1) := by decide +kernel
theorem d_PT_answeredLine_45 : decode b_PT_answeredLine 45 = .ok (.aload_n 0, 1) := by decide +kernel
theorem d_PT_answeredLine_46 : decode b_PT_answeredLine 46 = .ok (.getfield 84, 3) := by decide +kernel
theorem d_PT_answeredLine_49 : decode b_PT_answeredLine 49 = .ok (.invokevirtual 170, 3) := by decide +kernel
theorem d_PT_answeredLine_52 : decode b_PT_answeredLine 52 = .ok (.putfield 75, 3) := by decide +kernel
theorem d_PT_answeredLine_55 : decode b_PT_answeredLine 55 = .ok (.aload_n 0, 1) := by decide +kernel
theorem d_PT_answeredLine_56 : decode b_PT_answeredLine 56 = .ok (.aload_n 0, 1) := by decide +kernel
theorem d_PT_answeredLine_57 : decode b_PT_answeredLine 57 = .ok (.getfield 72, 3) := by decide +kernel
theorem d_PT_answeredLine_60 : decode b_PT_answeredLine 60 = .ok (.putfield 78, 3) := by decide +kernel
theorem d_PT_answeredLine_63 : decode b_PT_answeredLine 63 = .ok (.aload_n 0, 1) := by decide +kernel
theorem d_PT_answeredLine_64 : decode b_PT_answeredLine 64 = .ok (.iconst 0, 1) := by decide +kernel
theorem d_PT_answeredLine_65 : decode b_PT_answeredLine 65 = .ok (.putfield 38, 3) := by decide +kernel
theorem d_PT_answeredLine_68 : decode b_PT_answeredLine 68 = .ok (.aload_n 0, 1) := by decide +kernel
theorem d_PT_answeredLine_69 : decode b_PT_answeredLine 69 = .ok (.iconst 0, 1) := by decide +kernel
theorem d_PT_answeredLine_70 : decode b_PT_answeredLine 70 = .ok (.invokevirtual 201, 3) := by decide +kernel
theorem d_PT_answeredLine_73 : decode b_PT_answeredLine 73 = .ok (.goto 8, 3) := by decide +kernel
theorem d_PT_answeredLine_76 : decode b_PT_answeredLine 76 = .ok (.aload_n 0, 1) := by decide +kernel
theorem d_PT_answeredLine_77 : decode b_PT_answeredLine 77 = .ok (.iconst 0, 1) := by decide +kernel
theorem d_PT_answeredLine_78 : decode b_PT_answeredLine 78 = .ok (.putfield 34, 3) := by decide +kernel
theorem d_PT_answeredLine_81 : decode b_PT_answeredLine 81 = .ok (.iconst 1, 1) := by decide +kernel
theorem d_PT_answeredLine_82 : decode b_PT_answeredLine 82 = .ok (.ireturn, 1) := by decide +kernel
theorem d_PT_isOtherStation_0 : decode b_PT_isOtherStation 0 = .ok (.iload_n 1, 1) := by decide +kernel
theorem d_PT_isOtherStation_1 : decode b_PT_isOtherStation 1 = .ok (.ifCond .lt 23, 3) := by decide +kernel
theorem d_PT_isOtherStation_4 : decode b_PT_isOtherStation 4 = .ok (.iload_n 1, 1) := by decide +kernel
theorem d_PT_isOtherStation_5 : decode b_PT_isOtherStation 5 = .ok (.aload_n 0, 1) := by decide +kernel
theorem d_PT_isOtherStation_6 : decode b_PT_isOtherStation 6 = .ok (.getfield 69, 3) := by decide +kernel
theorem d_PT_isOtherStation_9 : decode b_PT_isOtherStation 9 = .ok (.if_icmp .gt 15, 3) := by decide +kernel
theorem d_PT_isOtherStation_12 : decode b_PT_isOtherStation 12 = .ok (.iload_n 1, 1) := by decide +kernel
theorem d_PT_isOtherStation_13 : decode b_PT_isOtherStation 13 = .ok (.aload_n 0, 1) := by decide +kernel
theorem d_PT_isOtherStation_14 : decode b_PT_isOtherStation 14 = .ok (.getfield 72, 3) := by decide +kernel
theorem d_PT_isOtherStation_17 : decode b_PT_isOtherStation 17 = .ok (.if_icmp .eq 7, 3) := by decide +kernel
theorem d_PT_isOtherStation_20 : decode b_PT_isOtherStation 20 = .ok (.iconst 1, 1) := by decide +kernel
theorem d_PT_isOtherStation_21 : decode b_PT_isOtherStation 21 = .ok (.goto 4, 3) := by decide +kernel
theorem d_PT_isOtherStation_24 : decode b_PT_isOtherStation 24 = .ok (.iconst 0, 1) := by decide +kernel
theorem d_PT_isOtherStation_25 : decode b_PT_isOtherStation 25 = .ok (.ireturn, 1) := by decide +kernel
theorem d_PT_unansweredLine_0 : decode b_PT_unansweredLine 0 = .ok (.iload_n 1, 1) := by decide +kernel
theorem d_PT_unansweredLine_1 : decode b_PT_unansweredLine 1 = .ok (.iconst 2, 1) := by decide +kernel
theorem d_PT_unansweredLine_2 : decode b_PT_unansweredLine 2 = .ok (.if_icmp .eq 14, 3) := by decide +kernel
theorem d_PT_unansweredLine_5 : decode b_PT_unansweredLine 5 = .ok (.aload_n 0, 1) := by decide +kernel
theorem d_PT_unansweredLine_6 : decode b_PT_unansweredLine 6 = .ok (.getfield 51, 3) := by decide +kernel
theorem d_PT_unansweredLine_9 : decode b_PT_unansweredLine 9 = .ok (.bipush 20, 2) := by decide +kernel
theorem d_PT_unansweredLine_11 : decode b_PT_unansweredLine 11 = .ok (.if_icmp .ge 5, 3) := by decide +kernel
theorem d_PT_unansweredLine_14 : decode b_PT_unansweredLine 14 = .ok (.iconst 0, 1) := by decide +kernel
theorem d_PT_unansweredLine_15 : decode b_PT_unansweredLine 15 = .ok (.ireturn, 1) := by decide +kernel
theorem d_PT_unansweredLine_16 : decode b_PT_unansweredLine 16 = .ok (.aload_n 0, 1) := by decide +kernel
theorem d_PT_unansweredLine_17 : decode b_PT_unansweredLine 17 = .ok (.getfield 44, 3) := by decide +kernel
theorem d_PT_unansweredLine_20 : decode b_PT_unansweredLine 20 = .ok (.ifCond .eq 11, 3) := by decide +kernel
theorem d_PT_unansweredLine_23 : decode b_PT_unansweredLine 23 = .ok (.aload_n 0, 1) := by decide +kernel
theorem d_PT_unansweredLine_24 : decode b_PT_unansweredLine 24 = .ok (.iconst 1, 1) := by decide +kernel
theorem d_PT_unansweredLine_25 : decode b_PT_unansweredLine 25 = .ok (.putfield 34, 3) := by decide +kernel
theorem d_PT_unansweredLine_28 : decode b_PT_unansweredLine 28 = .ok (.goto 62, 3) := by decide +kernel
theorem d_PT_unansweredLine_31 : decode b_PT_unansweredLine 31 = .ok (.aload_n 0, 1) := by decide +kernel
theorem d_PT_unansweredLine_32 : decode b_PT_unansweredLine 32 = .ok (.getfield 75, 3) := by decide +kernel
theorem d_PT_unansweredLine_35 : decode b_PT_unansweredLine 35 = .ok (.aload_n 0, 1) := by decide +kernel
theorem d_PT_unansweredLine_36 : decode b_PT_unansweredLine 36 = .ok (.getfield 72, 3) := by decide +kernel
theorem d_PT_unansweredLine_39 : decode b_PT_unansweredLine 39 = .ok (.if_icmp .eq 11, 3) := by decide +kernel
theorem d_PT_unansweredLine_42 : decode b_PT_unansweredLine 42 = .ok (.aload_n 0, 1) := by decide +kernel
theorem d_PT_unansweredLine_43 : decode b_PT_unansweredLine 43 = .ok (.iconst 0, 1) := by decide +kernel
theorem d_PT_unansweredLine_44 : decode b_PT_unansweredLine 44 = .ok (.invokevirtual 201, 3) := by decide +kernel
theorem d_PT_unansweredLine_47 : decode b_PT_unansweredLine 47 = .ok (.goto 43, 3) := by decide +kernel
theorem d_PT_unansweredLine_50 : decode b_PT_unansweredLine 50 = .ok (.aload_n 0, 1) := by decide +kernel
theorem d_PT_unansweredLine_51 : decode b_PT_unansweredLine 51 = .ok (.aload_n 0, 1) := by decide +kernel
theorem d_PT_unansweredLine_52 : decode b_PT_unansweredLine 52 = .ok (.getfield 78, 3) := by decide +kernel
theorem d_PT_unansweredLine_55 : decode b_PT_unansweredLine 55 = .ok (.invokevirtual 195, 3) := by decide +kernel
theorem d_PT_unansweredLine_58 : decode b_PT_unansweredLine 58 = .ok (.aload_n 0, 1) := by decide +kernel
theorem d_PT_unansweredLine_59 : decode b_PT_unansweredLine 59 = .ok (.getfield 72, 3) := by decide +kernel
theorem d_PT_unansweredLine_62 : decode b_PT_unansweredLine 62 = .ok (.if_icmp .eq 18, 3) := by decide +kernel
theorem d_PT_unansweredLine_65 : decode b_PT_unansweredLine 65 = .ok (.aload_n 0, 1) := by decide +kernel
theorem d_PT_unansweredLine_66 : decode b_PT_unansweredLine 66 = .ok (.aload_n 0, 1) := by decide +kernel
theorem d_PT_unansweredLine_67 : decode b_PT_unansweredLine 67 = .ok (.aload_n 0, 1) := by decide +kernel
theorem d_PT_unansweredLine_68 : decode b_PT_unansweredLine 68 = .ok (.getfield 78, 3) := by decide +kernel
theorem d_PT_unansweredLine_71 : decode b_PT_unansweredLine 71 = .ok (.invokevirtual 195, 3) := by decide +kernel
theorem d_PT_unansweredLine_74 : decode b_PT_unansweredLine 74 = .ok (.invokevirtual 198, 3) := by decide +kernel
theorem d_PT_unansweredLine_77 : decode b_PT_unansweredLine 77 = .ok (.goto 13, 3) := by decide +kernel
theorem d_PT_unansweredLine_80 : decode b_PT_unansweredLine 80 = .ok (.aload_n 0, 1) := by decide +kernel
theorem d_PT_unansweredLine_81 : decode b_PT_unansweredLine 81 = .ok (.iconst 1, 1) := by decide +kernel
theorem d_PT_unansweredLine_82 : decode b_PT_unansweredLine 82 = .ok (.putfield 44, 3) := by decide +kernel
theorem d_PT_unansweredLine_85 : decode b_PT_unansweredLine 85 = .ok (.aload_n 0, 1) := by decide +kernel
theorem d_PT_unansweredLine_86 : decode b_PT_unansweredLine 86 = .ok (.iconst 1, 1) := by decide +kernel
theorem d_PT_unansweredLine_87 : decode b_PT_unansweredLine 87 = .ok (.putfield 34, 3) := by decide +kernel
theorem d_PT_unansweredLine_90 : decode b_PT_unansweredLine 90 = .ok (.iconst 1, 1) := by decide +kernel
theorem d_PT_unansweredLine_91 : decode b_PT_unansweredLine 91 = .ok (.ireturn, 1) := by decide +kernel
theorem d_PT_quiet_0 : decode b_PT_quiet 0 = .ok (.iload_n 1, 1) := by decide +kernel
theorem d_PT_quiet_1 : decode b_PT_quiet 1 = .ok (.iconst 1, 1) := by decide +kernel
theorem d_PT_quiet_2 : decode b_PT_quiet 2 = .ok (.if_icmp .lt 9, 3) := by decide +kernel
theorem d_PT_quiet_5 : decode b_PT_quiet 5 = .ok (.iload_n 1, 1) := by decide +kernel
theorem d_PT_quiet_6 : decode b_PT_quiet 6 = .ok (.bipush 100, 2) := by decide +kernel
theorem d_PT_quiet_8 : decode b_PT_quiet 8 = .ok (.if_icmp .le 5, 3) := by decide +kernel
theorem d_PT_quiet_11 : decode b_PT_quiet 11 = .ok (.iconst (-1), 1) := by decide +kernel
theorem d_PT_quiet_12 : decode b_PT_quiet 12 = .ok (.ireturn, 1) := by decide +kernel
theorem d_PT_quiet_13 : decode b_PT_quiet 13 = .ok (.aload_n 0, 1) := by decide +kernel
theorem d_PT_quiet_14 : decode b_PT_quiet 14 = .ok (.getfield 14, 3) := by decide +kernel
theorem d_PT_quiet_17 : decode b_PT_quiet 17 = .ok (.invokevirtual 92, 3) := by decide +kernel
theorem d_PT_quiet_20 : decode b_PT_quiet 20 = .ok (.iconst 0, 1) := by decide +kernel
theorem d_PT_quiet_21 : decode b_PT_quiet 21 = .ok (.istore_n 2, 1) := by decide +kernel
theorem d_PT_quiet_22 : decode b_PT_quiet 22 = .ok (.iload_n 2, 1) := by decide +kernel
theorem d_PT_quiet_23 : decode b_PT_quiet 23 = .ok (.iload_n 1, 1) := by decide +kernel
theorem d_PT_quiet_24 : decode b_PT_quiet 24 = .ok (.if_icmp .ge 34, 3) := by decide +kernel
theorem d_PT_quiet_27 : decode b_PT_quiet 27 = .ok (.aload_n 0, 1) := by decide +kernel
theorem d_PT_quiet_28 : decode b_PT_quiet 28 = .ok (.dup, 1) := by decide +kernel
theorem d_PT_quiet_29 : decode b_PT_quiet 29 = .ok (.getfield 51, 3) := by decide +kernel
theorem d_PT_quiet_32 : decode b_PT_quiet 32 = .ok (.iconst 1, 1) := by decide +kernel
theorem d_PT_quiet_33 : decode b_PT_quiet 33 = .ok (.iadd, 1) := by decide +kernel
theorem d_PT_quiet_34 : decode b_PT_quiet 34 = .ok (.putfield 51, 3) := by decide +kernel
theorem d_PT_quiet_37 : decode b_PT_quiet 37 = .ok (.aload_n 0, 1) := by decide +kernel
theorem d_PT_quiet_38 : decode b_PT_quiet 38 = .ok (.aload_n 0, 1) := by decide +kernel
theorem d_PT_quiet_39 : decode b_PT_quiet 39 = .ok (.getfield 84, 3) := by decide +kernel
theorem d_PT_quiet_42 : decode b_PT_quiet 42 = .ok (.aload_n 0, 1) := by decide +kernel
theorem d_PT_quiet_43 : decode b_PT_quiet 43 = .ok (.getfield 51, 3) := by decide +kernel
theorem d_PT_quiet_46 : decode b_PT_quiet 46 = .ok (.invokevirtual 106, 3) := by decide +kernel
theorem d_PT_quiet_49 : decode b_PT_quiet 49 = .ok (.invokevirtual 99, 3) := by decide +kernel
theorem d_PT_quiet_52 : decode b_PT_quiet 52 = .ok (.iinc 2 1, 3) := by decide +kernel
theorem d_PT_quiet_55 : decode b_PT_quiet 55 = .ok (.goto (-33), 3) := by decide +kernel
theorem d_PT_quiet_58 : decode b_PT_quiet 58 = .ok (.aload_n 0, 1) := by decide +kernel
theorem d_PT_quiet_59 : decode b_PT_quiet 59 = .ok (.getfield 14, 3) := by decide +kernel
theorem d_PT_quiet_62 : decode b_PT_quiet 62 = .ok (.invokevirtual 102, 3) := by decide +kernel
theorem d_PT_quiet_65 : decode b_PT_quiet 65 = .ok (.ireturn, 1) := by decide +kernel
theorem d_PT_sent_0 : decode b_PT_sent 0 = .ok (.aload_n 0, 1) := by decide +kernel
theorem d_PT_sent_1 : decode b_PT_sent 1 = .ok (.getfield 14, 3) := by decide +kernel
theorem d_PT_sent_4 : decode b_PT_sent 4 = .ok (.iload_n 1, 1) := by decide +kernel
theorem d_PT_sent_5 : decode b_PT_sent 5 = .ok (.invokevirtual 109, 3) := by decide +kernel
theorem d_PT_sent_8 : decode b_PT_sent 8 = .ok (.ireturn, 1) := by decide +kernel
theorem d_PT_ask_0 : decode b_PT_ask 0 = .ok (.aload_n 0, 1) := by decide +kernel
theorem d_PT_ask_1 : decode b_PT_ask 1 = .ok (.iload_n 1, 1) := by decide +kernel
theorem d_PT_ask_2 : decode b_PT_ask 2 = .ok (.invokevirtual 112, 3) := by decide +kernel
theorem d_PT_ask_5 : decode b_PT_ask 5 = .ok (.ifCond .eq 18, 3) := by decide +kernel
theorem d_PT_ask_8 : decode b_PT_ask 8 = .ok (.iload_n 2, 1) := by decide +kernel
theorem d_PT_ask_9 : decode b_PT_ask 9 = .ok (.invokestatic 88, 3) := by decide +kernel
theorem d_PT_ask_12 : decode b_PT_ask 12 = .ok (.ifCond .eq 11, 3) := by decide +kernel
theorem d_PT_ask_15 : decode b_PT_ask 15 = .ok (.iload 5, 2) := by decide +kernel
theorem d_PT_ask_17 : decode b_PT_ask 17 = .ok (.invokestatic 88, 3) := by decide +kernel
theorem d_PT_ask_20 : decode b_PT_ask 20 = .ok (.ifCond .ne 5, 3) := by decide +kernel
theorem d_PT_ask_23 : decode b_PT_ask 23 = .ok (.iconst 0, 1) := by decide +kernel
theorem d_PT_ask_24 : decode b_PT_ask 24 = .ok (.ireturn, 1) := by decide +kernel
theorem d_PT_ask_25 : decode b_PT_ask 25 = .ok (.iload_n 3, 1) := by decide +kernel
theorem d_PT_ask_26 : decode b_PT_ask 26 = .ok (.ifCond .lt 22, 3) := by decide +kernel
theorem d_PT_ask_29 : decode b_PT_ask 29 = .ok (.iload_n 3, 1) := by decide +kernel
theorem d_PT_ask_30 : decode b_PT_ask 30 = .ok (.sipush 1023, 3) := by decide +kernel
theorem d_PT_ask_33 : decode b_PT_ask 33 = .ok (.if_icmp .gt 15, 3) := by decide +kernel
theorem d_PT_ask_36 : decode b_PT_ask 36 = .ok (.iload 4, 2) := by decide +kernel
theorem d_PT_ask_38 : decode b_PT_ask 38 = .ok (.ifCond .lt 10, 3) := by decide +kernel
theorem d_PT_ask_41 : decode b_PT_ask 41 = .ok (.iload 4, 2) := by decide +kernel
theorem d_PT_ask_43 : decode b_PT_ask 43 = .ok (.ldc 115, 2) := by decide +kernel
theorem d_PT_ask_45 : decode b_PT_ask 45 = .ok (.if_icmp .le 5, 3) := by decide +kernel
theorem d_PT_ask_48 : decode b_PT_ask 48 = .ok (.iconst 0, 1) := by decide +kernel
theorem d_PT_ask_49 : decode b_PT_ask 49 = .ok (.ireturn, 1) := by decide +kernel
theorem d_PT_ask_50 : decode b_PT_ask 50 = .ok (.aload_n 0, 1) := by decide +kernel
theorem d_PT_ask_51 : decode b_PT_ask 51 = .ok (.getfield 21, 3) := by decide +kernel
theorem d_PT_ask_54 : decode b_PT_ask 54 = .ok (.invokevirtual 92, 3) := by decide +kernel
theorem d_PT_ask_57 : decode b_PT_ask 57 = .ok (.aload_n 0, 1) := by decide +kernel
theorem d_PT_ask_58 : decode b_PT_ask 58 = .ok (.getfield 21, 3) := by decide +kernel
theorem d_PT_ask_61 : decode b_PT_ask 61 = .ok (.iconst 1, 1) := by decide +kernel
theorem d_PT_ask_62 : decode b_PT_ask 62 = .ok (.invokevirtual 116, 3) := by decide +kernel
theorem d_PT_ask_65 : decode b_PT_ask 65 = .ok (.aload_n 0, 1) := by decide +kernel
theorem d_PT_ask_66 : decode b_PT_ask 66 = .ok (.getfield 21, 3) := by decide +kernel
theorem d_PT_ask_69 : decode b_PT_ask 69 = .ok (.iconst 4, 1) := by decide +kernel
theorem d_PT_ask_70 : decode b_PT_ask 70 = .ok (.invokevirtual 116, 3) := by decide +kernel
theorem d_PT_ask_73 : decode b_PT_ask 73 = .ok (.aload_n 0, 1) := by decide +kernel
theorem d_PT_ask_74 : decode b_PT_ask 74 = .ok (.getfield 21, 3) := by decide +kernel
theorem d_PT_ask_77 : decode b_PT_ask 77 = .ok (.iconst 0, 1) := by decide +kernel
theorem d_PT_ask_78 : decode b_PT_ask 78 = .ok (.invokevirtual 116, 3) := by decide +kernel
theorem d_PT_ask_81 : decode b_PT_ask 81 = .ok (.aload_n 0, 1) := by decide +kernel
theorem d_PT_ask_82 : decode b_PT_ask 82 = .ok (.getfield 21, 3) := by decide +kernel
theorem d_PT_ask_85 : decode b_PT_ask 85 = .ok (.iconst 4, 1) := by decide +kernel
theorem d_PT_ask_86 : decode b_PT_ask 86 = .ok (.invokevirtual 116, 3) := by decide +kernel
theorem d_PT_ask_89 : decode b_PT_ask 89 = .ok (.aload_n 0, 1) := by decide +kernel
theorem d_PT_ask_90 : decode b_PT_ask 90 = .ok (.getfield 21, 3) := by decide +kernel
theorem d_PT_ask_93 : decode b_PT_ask 93 = .ok (.iload_n 2, 1) := by decide +kernel
theorem d_PT_ask_94 : decode b_PT_ask 94 = .ok (.invokevirtual 116, 3) := by decide +kernel
theorem d_PT_ask_97 : decode b_PT_ask 97 = .ok (.aload_n 0, 1) := by decide +kernel
theorem d_PT_ask_98 : decode b_PT_ask 98 = .ok (.getfield 21, 3) := by decide +kernel
theorem d_PT_ask_101 : decode b_PT_ask 101 = .ok (.bipush 12, 2) := by decide +kernel
theorem d_PT_ask_103 : decode b_PT_ask 103 = .ok (.invokevirtual 116, 3) := by decide +kernel
theorem d_PT_ask_106 : decode b_PT_ask 106 = .ok (.aload_n 0, 1) := by decide +kernel
theorem d_PT_ask_107 : decode b_PT_ask 107 = .ok (.getfield 21, 3) := by decide +kernel
theorem d_PT_ask_110 : decode b_PT_ask 110 = .ok (.bipush 12, 2) := by decide +kernel
theorem d_PT_ask_112 : decode b_PT_ask 112 = .ok (.invokevirtual 116, 3) := by decide +kernel
theorem d_PT_ask_115 : decode b_PT_ask 115 = .ok (.aload_n 0, 1) := by decide +kernel
