theorem d_Mod_lost_29 : decode b_Mod_lost 29 = .ok (.iadd, 1) := by decide +kernel
theorem d_Mod_lost_30 : decode b_Mod_lost 30 = .ok (.if_icmp .ge 5, 3) := by decide +kernel
theorem d_Mod_lost_33 : decode b_Mod_lost 33 = .ok (.iconst 0, 1) := by decide +kernel
theorem d_Mod_lost_34 : decode b_Mod_lost 34 = .ok (.ireturn, 1) := by decide +kernel
theorem d_Mod_lost_35 : decode b_Mod_lost 35 = .ok (.aload_n 0, 1) := by decide +kernel
theorem d_Mod_lost_36 : decode b_Mod_lost 36 = .ok (.aload_n 0, 1) := by decide +kernel
theorem d_Mod_lost_37 : decode b_Mod_lost 37 = .ok (.aload_n 0, 1) := by decide +kernel
theorem d_Mod_lost_38 : decode b_Mod_lost 38 = .ok (.getfield 39, 3) := by decide +kernel
theorem d_Mod_lost_41 : decode b_Mod_lost 41 = .ok (.invokevirtual 142, 3) := by decide +kernel
theorem d_Mod_lost_44 : decode b_Mod_lost 44 = .ok (.invokevirtual 146, 3) := by decide +kernel
theorem d_Mod_lost_47 : decode b_Mod_lost 47 = .ok (.aload_n 0, 1) := by decide +kernel
theorem d_Mod_lost_48 : decode b_Mod_lost 48 = .ok (.aload_n 0, 1) := by decide +kernel
theorem d_Mod_lost_49 : decode b_Mod_lost 49 = .ok (.getfield 39, 3) := by decide +kernel
theorem d_Mod_lost_52 : decode b_Mod_lost 52 = .ok (.putfield 42, 3) := by decide +kernel
theorem d_Mod_lost_55 : decode b_Mod_lost 55 = .ok (.aload_n 0, 1) := by decide +kernel
theorem d_Mod_lost_56 : decode b_Mod_lost 56 = .ok (.iconst 0, 1) := by decide +kernel
theorem d_Mod_lost_57 : decode b_Mod_lost 57 = .ok (.putfield 149, 3) := by decide +kernel
theorem d_Mod_lost_60 : decode b_Mod_lost 60 = .ok (.aload_n 0, 1) := by decide +kernel
theorem d_Mod_lost_61 : decode b_Mod_lost 61 = .ok (.bipush 6, 2) := by decide +kernel
theorem d_Mod_lost_63 : decode b_Mod_lost 63 = .ok (.putfield 100, 3) := by decide +kernel
theorem d_Mod_lost_66 : decode b_Mod_lost 66 = .ok (.iconst 1, 1) := by decide +kernel
theorem d_Mod_lost_67 : decode b_Mod_lost 67 = .ok (.ireturn, 1) := by decide +kernel
theorem d_Mod_polling_0 : decode b_Mod_polling 0 = .ok (.aload_n 0, 1) := by decide +kernel
theorem d_Mod_polling_1 : decode b_Mod_polling 1 = .ok (.getfield 94, 3) := by decide +kernel
theorem d_Mod_polling_4 : decode b_Mod_polling 4 = .ok (.ifCond .eq 106, 3) := by decide +kernel
theorem d_Mod_polling_7 : decode b_Mod_polling 7 = .ok (.aload_n 0, 1) := by decide +kernel
theorem d_Mod_polling_8 : decode b_Mod_polling 8 = .ok (.getfield 7, 3) := by decide +kernel
theorem d_Mod_polling_11 : decode b_Mod_polling 11 = .ok (.iconst 2, 1) := by decide +kernel
theorem d_Mod_polling_12 : decode b_Mod_polling 12 = .ok (.iaload, 1) := by decide +kernel
theorem d_Mod_polling_13 : decode b_Mod_polling 13 = .ok (.istore_n 1, 1) := by decide +kernel
theorem d_Mod_polling_14 : decode b_Mod_polling 14 = .ok (.aload_n 0, 1) := by decide +kernel
theorem d_Mod_polling_15 : decode b_Mod_polling 15 = .ok (.getfield 7, 3) := by decide +kernel
theorem d_Mod_polling_18 : decode b_Mod_polling 18 = .ok (.iconst 1, 1) := by decide +kernel
theorem d_Mod_polling_19 : decode b_Mod_polling 19 = .ok (.iaload, 1) := by decide +kernel
theorem d_Mod_polling_20 : decode b_Mod_polling 20 = .ok (.aload_n 0, 1) := by decide +kernel
theorem d_Mod_polling_21 : decode b_Mod_polling 21 = .ok (.getfield 39, 3) := by decide +kernel
theorem d_Mod_polling_24 : decode b_Mod_polling 24 = .ok (.if_icmp .ne 33, 3) := by decide +kernel
theorem d_Mod_polling_27 : decode b_Mod_polling 27 = .ok (.aload_n 0, 1) := by decide +kernel
theorem d_Mod_polling_28 : decode b_Mod_polling 28 = .ok (.getfield 7, 3) := by decide +kernel
theorem d_Mod_polling_31 : decode b_Mod_polling 31 = .ok (.iconst 0, 1) := by decide +kernel
theorem d_Mod_polling_32 : decode b_Mod_polling 32 = .ok (.iaload, 1) := by decide +kernel
theorem d_Mod_polling_33 : decode b_Mod_polling 33 = .ok (.iconst 2, 1) := by decide +kernel
theorem d_Mod_polling_34 : decode b_Mod_polling 34 = .ok (.if_icmp .ne 23, 3) := by decide +kernel
theorem d_Mod_polling_37 : decode b_Mod_polling 37 = .ok (.iload_n 1, 1) := by decide +kernel
theorem d_Mod_polling_38 : decode b_Mod_polling 38 = .ok (.aload_n 0, 1) := by decide +kernel
theorem d_Mod_polling_39 : decode b_Mod_polling 39 = .ok (.getfield 35, 3) := by decide +kernel
theorem d_Mod_polling_42 : decode b_Mod_polling 42 = .ok (.if_icmp .gt 15, 3) := by decide +kernel
theorem d_Mod_polling_45 : decode b_Mod_polling 45 = .ok (.iload_n 1, 1) := by decide +kernel
theorem d_Mod_polling_46 : decode b_Mod_polling 46 = .ok (.aload_n 0, 1) := by decide +kernel
theorem d_Mod_polling_47 : decode b_Mod_polling 47 = .ok (.getfield 39, 3) := by decide +kernel
theorem d_Mod_polling_50 : decode b_Mod_polling 50 = .ok (.if_icmp .eq 7, 3) := by decide +kernel
theorem d_Mod_polling_53 : decode b_Mod_polling 53 = .ok (.iconst 1, 1) := by decide +kernel
theorem d_Mod_polling_54 : decode b_Mod_polling 54 = .ok (.goto 4, 3) := by decide +kernel
theorem d_Mod_polling_57 : decode b_Mod_polling 57 = .ok (.iconst 0, 1) := by decide +kernel
theorem d_Mod_polling_58 : decode b_Mod_polling 58 = .ok (.istore_n 2, 1) := by decide +kernel
theorem d_Mod_polling_59 : decode b_Mod_polling 59 = .ok (.aload_n 0, 1) := by decide +kernel
theorem d_Mod_polling_60 : decode b_Mod_polling 60 = .ok (.iload_n 2, 1) := by decide +kernel
theorem d_Mod_polling_61 : decode b_Mod_polling 61 = .ok (.ifCond .eq 7, 3) := by decide +kernel
theorem d_Mod_polling_64 : decode b_Mod_polling 64 = .ok (.iconst 4, 1) := by decide +kernel
theorem d_Mod_polling_65 : decode b_Mod_polling 65 = .ok (.goto 4, 3) := by decide +kernel
theorem d_Mod_polling_68 : decode b_Mod_polling 68 = .ok (.iconst 0, 1) := by decide +kernel
theorem d_Mod_polling_69 : decode b_Mod_polling 69 = .ok (.putfield 100, 3) := by decide +kernel
theorem d_Mod_polling_72 : decode b_Mod_polling 72 = .ok (.iload_n 2, 1) := by decide +kernel
theorem d_Mod_polling_73 : decode b_Mod_polling 73 = .ok (.ifCond .eq 35, 3) := by decide +kernel
theorem d_Mod_polling_76 : decode b_Mod_polling 76 = .ok (.aload_n 0, 1) := by decide +kernel
theorem d_Mod_polling_77 : decode b_Mod_polling 77 = .ok (.iconst 0, 1) := by decide +kernel
theorem d_Mod_polling_78 : decode b_Mod_polling 78 = .ok (.putfield 124, 3) := by decide +kernel
theorem d_Mod_polling_81 : decode b_Mod_polling 81 = .ok (.aload_n 0, 1) := by decide +kernel
theorem d_Mod_polling_82 : decode b_Mod_polling 82 = .ok (.iload_n 1, 1) := by decide +kernel
theorem d_Mod_polling_83 : decode b_Mod_polling 83 = .ok (.putfield 42, 3) := by decide +kernel
theorem d_Mod_polling_86 : decode b_Mod_polling 86 = .ok (.aload_n 0, 1) := by decide +kernel
theorem d_Mod_polling_87 : decode b_Mod_polling 87 = .ok (.aload_n 0, 1) := by decide +kernel
theorem d_Mod_polling_88 : decode b_Mod_polling 88 = .ok (.getfield 39, 3) := by decide +kernel
theorem d_Mod_polling_91 : decode b_Mod_polling 91 = .ok (.putfield 45, 3) := by decide +kernel
theorem d_Mod_polling_94 : decode b_Mod_polling 94 = .ok (.aload_n 0, 1) := by decide +kernel
theorem d_Mod_polling_95 : decode b_Mod_polling 95 = .ok (.iconst 0, 1) := by decide +kernel
theorem d_Mod_polling_96 : decode b_Mod_polling 96 = .ok (.putfield 149, 3) := by decide +kernel
theorem d_Mod_polling_99 : decode b_Mod_polling 99 = .ok (.aload_n 0, 1) := by decide +kernel
theorem d_Mod_polling_100 : decode b_Mod_polling 100 = .ok (.iconst 0, 1) := by decide +kernel
theorem d_Mod_polling_101 : decode b_Mod_polling 101 = .ok (.putfield 152, 3) := by decide +kernel
theorem d_Mod_polling_104 : decode b_Mod_polling 104 = .ok (.aload_n 0, 1) := by decide +kernel
theorem d_Mod_polling_105 : decode b_Mod_polling 105 = .ok (.invokevirtual 155, 3) := by decide +kernel
theorem d_Mod_polling_108 : decode b_Mod_polling 108 = .ok (.iconst 1, 1) := by decide +kernel
theorem d_Mod_polling_109 : decode b_Mod_polling 109 = .ok (.ireturn, 1) := by decide +kernel
theorem d_Mod_polling_110 : decode b_Mod_polling 110 = .ok (.aload_n 0, 1) := by decide +kernel
theorem d_Mod_polling_111 : decode b_Mod_polling 111 = .ok (.getfield 86, 3) := by decide +kernel
theorem d_Mod_polling_114 : decode b_Mod_polling 114 = .ok (.ifCond .ne 14, 3) := by decide +kernel
theorem d_Mod_polling_117 : decode b_Mod_polling 117 = .ok (.aload_n 0, 1) := by decide +kernel
theorem d_Mod_polling_118 : decode b_Mod_polling 118 = .ok (.getfield 64, 3) := by decide +kernel
theorem d_Mod_polling_121 : decode b_Mod_polling 121 = .ok (.bipush 20, 2) := by decide +kernel
theorem d_Mod_polling_123 : decode b_Mod_polling 123 = .ok (.if_icmp .ge 5, 3) := by decide +kernel
theorem d_Mod_polling_126 : decode b_Mod_polling 126 = .ok (.iconst 0, 1) := by decide +kernel
theorem d_Mod_polling_127 : decode b_Mod_polling 127 = .ok (.ireturn, 1) := by decide +kernel
theorem d_Mod_polling_128 : decode b_Mod_polling 128 = .ok (.aload_n 0, 1) := by decide +kernel
theorem d_Mod_polling_129 : decode b_Mod_polling 129 = .ok (.getfield 124, 3) := by decide +kernel
theorem d_Mod_polling_132 : decode b_Mod_polling 132 = .ok (.ifCond .eq 11, 3) := by decide +kernel
theorem d_Mod_polling_135 : decode b_Mod_polling 135 = .ok (.aload_n 0, 1) := by decide +kernel
theorem d_Mod_polling_136 : decode b_Mod_polling 136 = .ok (.iconst 1, 1) := by decide +kernel
theorem d_Mod_polling_137 : decode b_Mod_polling 137 = .ok (.putfield 100, 3) := by decide +kernel
theorem d_Mod_polling_140 : decode b_Mod_polling 140 = .ok (.goto 71, 3) := by decide +kernel
theorem d_Mod_polling_143 : decode b_Mod_polling 143 = .ok (.aload_n 0, 1) := by decide +kernel
theorem d_Mod_polling_144 : decode b_Mod_polling 144 = .ok (.getfield 42, 3) := by decide +kernel
theorem d_Mod_polling_147 : decode b_Mod_polling 147 = .ok (.aload_n 0, 1) := by decide +kernel
theorem d_Mod_polling_148 : decode b_Mod_polling 148 = .ok (.getfield 39, 3) := by decide +kernel
theorem d_Mod_polling_151 : decode b_Mod_polling 151 = .ok (.if_icmp .eq 20, 3) := by decide +kernel
theorem d_Mod_polling_154 : decode b_Mod_polling 154 = .ok (.aload_n 0, 1) := by decide +kernel
theorem d_Mod_polling_155 : decode b_Mod_polling 155 = .ok (.iconst 0, 1) := by decide +kernel
theorem d_Mod_polling_156 : decode b_Mod_polling 156 = .ok (.putfield 152, 3) := by decide +kernel
theorem d_Mod_polling_159 : decode b_Mod_polling 159 = .ok (.aload_n 0, 1) := by decide +kernel
theorem d_Mod_polling_160 : decode b_Mod_polling 160 = .ok (.invokevirtual 155, 3) := by decide +kernel
theorem d_Mod_polling_163 : decode b_Mod_polling 163 = .ok (.aload_n 0, 1) := by decide +kernel
theorem d_Mod_polling_164 : decode b_Mod_polling 164 = .ok (.iconst 4, 1) := by decide +kernel
theorem d_Mod_polling_165 : decode b_Mod_polling 165 = .ok (.putfield 100, 3) := by decide +kernel
theorem d_Mod_polling_168 : decode b_Mod_polling 168 = .ok (.goto 43, 3) := by decide +kernel
theorem d_Mod_polling_171 : decode b_Mod_polling 171 = .ok (.aload_n 0, 1) := by decide +kernel
theorem d_Mod_polling_172 : decode b_Mod_polling 172 = .ok (.aload_n 0, 1) := by decide +kernel
theorem d_Mod_polling_173 : decode b_Mod_polling 173 = .ok (.getfield 45, 3) := by decide +kernel
theorem d_Mod_polling_176 : decode b_Mod_polling 176 = .ok (.invokevirtual 142, 3) := by decide +kernel
theorem d_Mod_polling_179 : decode b_Mod_polling 179 = .ok (.aload_n 0, 1) := by decide +kernel
theorem d_Mod_polling_180 : decode b_Mod_polling 180 = .ok (.getfield 39, 3) := by decide +kernel
theorem d_Mod_polling_183 : decode b_Mod_polling 183 = .ok (.if_icmp .eq 18, 3) := by decide +kernel
theorem d_Mod_polling_186 : decode b_Mod_polling 186 = .ok (.aload_n 0, 1) := by decide +kernel
theorem d_Mod_polling_187 : decode b_Mod_polling 187 = .ok (.aload_n 0, 1) := by decide +kernel
theorem d_Mod_polling_188 : decode b_Mod_polling 188 = .ok (.aload_n 0, 1) := by decide +kernel
theorem d_Mod_polling_189 : decode b_Mod_polling 189 = .ok (.getfield 45, 3) := by decide +kernel
theorem d_Mod_polling_192 : decode b_Mod_polling 192 = .ok (.invokevirtual 142, 3) := by decide +kernel
theorem d_Mod_polling_195 : decode b_Mod_polling 195 = .ok (.invokevirtual 146, 3) := by decide +kernel
theorem d_Mod_polling_198 : decode b_Mod_polling 198 = .ok (.goto 13, 3) := by decide +kernel
theorem d_Mod_polling_201 : decode b_Mod_polling 201 = .ok (.aload_n 0, 1) := by decide +kernel
theorem d_Mod_polling_202 : decode b_Mod_polling 202 = .ok (.iconst 1, 1) := by decide +kernel
theorem d_Mod_polling_203 : decode b_Mod_polling 203 = .ok (.putfield 124, 3) := by decide +kernel
theorem d_Mod_polling_206 : decode b_Mod_polling 206 = .ok (.aload_n 0, 1) := by decide +kernel
theorem d_Mod_polling_207 : decode b_Mod_polling 207 = .ok (.iconst 1, 1) := by decide +kernel
theorem d_Mod_polling_208 : decode b_Mod_polling 208 = .ok (.putfield 100, 3) := by decide +kernel
theorem d_Mod_polling_211 : decode b_Mod_polling 211 = .ok (.iconst 1, 1) := by decide +kernel
theorem d_Mod_polling_212 : decode b_Mod_polling 212 = .ok (.ireturn, 1) := by decide +kernel
theorem d_Mod_quiet_0 : decode b_Mod_quiet 0 = .ok (.iload_n 1, 1) := by decide +kernel
theorem d_Mod_quiet_1 : decode b_Mod_quiet 1 = .ok (.iconst 1, 1) := by decide +kernel
theorem d_Mod_quiet_2 : decode b_Mod_quiet 2 = .ok (.if_icmp .lt 9, 3) := by decide +kernel
theorem d_Mod_quiet_5 : decode b_Mod_quiet 5 = .ok (.iload_n 1, 1) := by decide +kernel
theorem d_Mod_quiet_6 : decode b_Mod_quiet 6 = .ok (.bipush 100, 2) := by decide +kernel
theorem d_Mod_quiet_8 : decode b_Mod_quiet 8 = .ok (.if_icmp .le 5, 3) := by decide +kernel
theorem d_Mod_quiet_11 : decode b_Mod_quiet 11 = .ok (.iconst (-1), 1) := by decide +kernel
theorem d_Mod_quiet_12 : decode b_Mod_quiet 12 = .ok (.ireturn, 1) := by decide +kernel
theorem d_Mod_quiet_13 : decode b_Mod_quiet 13 = .ok (.aload_n 0, 1) := by decide +kernel
theorem d_Mod_quiet_14 : decode b_Mod_quiet 14 = .ok (.iconst 0, 1) := by decide +kernel
theorem d_Mod_quiet_15 : decode b_Mod_quiet 15 = .ok (.putfield 49, 3) := by decide +kernel
theorem d_Mod_quiet_18 : decode b_Mod_quiet 18 = .ok (.iconst 0, 1) := by decide +kernel
theorem d_Mod_quiet_19 : decode b_Mod_quiet 19 = .ok (.istore_n 2, 1) := by decide +kernel
theorem d_Mod_quiet_20 : decode b_Mod_quiet 20 = .ok (.iload_n 2, 1) := by decide +kernel
theorem d_Mod_quiet_21 : decode b_Mod_quiet 21 = .ok (.iload_n 1, 1) := by decide +kernel
theorem d_Mod_quiet_22 : decode b_Mod_quiet 22 = .ok (.if_icmp .ge 72, 3) := by decide +kernel
theorem d_Mod_quiet_25 : decode b_Mod_quiet 25 = .ok (.aload_n 0, 1) := by decide +kernel
theorem d_Mod_quiet_26 : decode b_Mod_quiet 26 = .ok (.dup, 1) := by decide +kernel
theorem d_Mod_quiet_27 : decode b_Mod_quiet 27 = .ok (.getfield 64, 3) := by decide +kernel
theorem d_Mod_quiet_30 : decode b_Mod_quiet 30 = .ok (.iconst 1, 1) := by decide +kernel
theorem d_Mod_quiet_31 : decode b_Mod_quiet 31 = .ok (.iadd, 1) := by decide +kernel
theorem d_Mod_quiet_32 : decode b_Mod_quiet 32 = .ok (.putfield 64, 3) := by decide +kernel
theorem d_Mod_quiet_35 : decode b_Mod_quiet 35 = .ok (.aload_n 0, 1) := by decide +kernel
theorem d_Mod_quiet_36 : decode b_Mod_quiet 36 = .ok (.iconst 0, 1) := by decide +kernel
theorem d_Mod_quiet_37 : decode b_Mod_quiet 37 = .ok (.putfield 94, 3) := by decide +kernel
theorem d_Mod_quiet_40 : decode b_Mod_quiet 40 = .ok (.aload_n 0, 1) := by decide +kernel
theorem d_Mod_quiet_41 : decode b_Mod_quiet 41 = .ok (.aload_n 0, 1) := by decide +kernel
theorem d_Mod_quiet_42 : decode b_Mod_quiet 42 = .ok (.getfield 64, 3) := by decide +kernel
theorem d_Mod_quiet_45 : decode b_Mod_quiet 45 = .ok (.iconst 4, 1) := by decide +kernel
theorem d_Mod_quiet_46 : decode b_Mod_quiet 46 = .ok (.if_icmp .ne 15, 3) := by decide +kernel
theorem d_Mod_quiet_49 : decode b_Mod_quiet 49 = .ok (.aload_n 0, 1) := by decide +kernel
theorem d_Mod_quiet_50 : decode b_Mod_quiet 50 = .ok (.getfield 74, 3) := by decide +kernel
theorem d_Mod_quiet_53 : decode b_Mod_quiet 53 = .ok (.iconst 1, 1) := by decide +kernel
theorem d_Mod_quiet_54 : decode b_Mod_quiet 54 = .ok (.if_icmp .le 7, 3) := by decide +kernel
theorem d_Mod_quiet_57 : decode b_Mod_quiet 57 = .ok (.iconst 1, 1) := by decide +kernel
theorem d_Mod_quiet_58 : decode b_Mod_quiet 58 = .ok (.goto 4, 3) := by decide +kernel
theorem d_Mod_quiet_61 : decode b_Mod_quiet 61 = .ok (.iconst 0, 1) := by decide +kernel
theorem d_Mod_quiet_62 : decode b_Mod_quiet 62 = .ok (.putfield 86, 3) := by decide +kernel
theorem d_Mod_quiet_65 : decode b_Mod_quiet 65 = .ok (.aload_n 0, 1) := by decide +kernel
theorem d_Mod_quiet_66 : decode b_Mod_quiet 66 = .ok (.aload_n 0, 1) := by decide +kernel
theorem d_Mod_quiet_67 : decode b_Mod_quiet 67 = .ok (.getfield 86, 3) := by decide +kernel
theorem d_Mod_quiet_70 : decode b_Mod_quiet 70 = .ok (.ifCond .eq 7, 3) := by decide +kernel
theorem d_Mod_quiet_73 : decode b_Mod_quiet 73 = .ok (.iconst 0, 1) := by decide +kernel
theorem d_Mod_quiet_74 : decode b_Mod_quiet 74 = .ok (.goto 7, 3) := by decide +kernel
theorem d_Mod_quiet_77 : decode b_Mod_quiet 77 = .ok (.aload_n 0, 1) := by decide +kernel
theorem d_Mod_quiet_78 : decode b_Mod_quiet 78 = .ok (.getfield 74, 3) := by decide +kernel
theorem d_Mod_quiet_81 : decode b_Mod_quiet 81 = .ok (.putfield 74, 3) := by decide +kernel
theorem d_Mod_quiet_84 : decode b_Mod_quiet 84 = .ok (.aload_n 0, 1) := by decide +kernel
theorem d_Mod_quiet_85 : decode b_Mod_quiet 85 = .ok (.invokevirtual 213, 3) := by decide +kernel
theorem d_Mod_quiet_88 : decode b_Mod_quiet 88 = .ok (.iinc 2 1, 3) := by decide +kernel
theorem d_Mod_quiet_91 : decode b_Mod_quiet 91 = .ok (.goto (-71), 3) := by decide +kernel
theorem d_Mod_quiet_94 : decode b_Mod_quiet 94 = .ok (.aload_n 0, 1) := by decide +kernel
theorem d_Mod_quiet_95 : decode b_Mod_quiet 95 = .ok (.getfield 49, 3) := by decide +kernel
theorem d_Mod_quiet_98 : decode b_Mod_quiet 98 = .ok (.ireturn, 1) := by decide +kernel
theorem d_Mod_sent_0 : decode b_Mod_sent 0 = .ok (.iload_n 1, 1) := by decide +kernel
theorem d_Mod_sent_1 : decode b_Mod_sent 1 = .ok (.ifCond .lt 20, 3) := by decide +kernel
theorem d_Mod_sent_4 : decode b_Mod_sent 4 = .ok (.iload_n 1, 1) := by decide +kernel
theorem d_Mod_sent_5 : decode b_Mod_sent 5 = .ok (.aload_n 0, 1) := by decide +kernel
theorem d_Mod_sent_6 : decode b_Mod_sent 6 = .ok (.getfield 49, 3) := by decide +kernel
theorem d_Mod_sent_9 : decode b_Mod_sent 9 = .ok (.if_icmp .ge 12, 3) := by decide +kernel
theorem d_Mod_sent_12 : decode b_Mod_sent 12 = .ok (.aload_n 0, 1) := by decide +kernel
theorem d_Mod_sent_13 : decode b_Mod_sent 13 = .ok (.getfield 16, 3) := by decide +kernel
theorem d_Mod_sent_16 : decode b_Mod_sent 16 = .ok (.iload_n 1, 1) := by decide +kernel
theorem d_Mod_sent_17 : decode b_Mod_sent 17 = .ok (.iaload, 1) := by decide +kernel
theorem d_Mod_sent_18 : decode b_Mod_sent 18 = .ok (.goto 4, 3) := by decide +kernel
theorem d_Mod_sent_21 : decode b_Mod_sent 21 = .ok (.iconst (-1), 1) := by decide +kernel
theorem d_Mod_sent_22 : decode b_Mod_sent 22 = .ok (.ireturn, 1) := by decide +kernel
theorem d_Mod_ask_0 : decode b_Mod_ask 0 = .ok (.iload_n 1, 1) := by decide +kernel
theorem d_Mod_ask_1 : decode b_Mod_ask 1 = .ok (.ifCond .lt 66, 3) := by decide +kernel
theorem d_Mod_ask_4 : decode b_Mod_ask 4 = .ok (.iload_n 1, 1) := by decide +kernel
theorem d_Mod_ask_5 : decode b_Mod_ask 5 = .ok (.aload_n 0, 1) := by decide +kernel
theorem d_Mod_ask_6 : decode b_Mod_ask 6 = .ok (.getfield 35, 3) := by decide +kernel
theorem d_Mod_ask_9 : decode b_Mod_ask 9 = .ok (.if_icmp .gt 58, 3) := by decide +kernel
theorem d_Mod_ask_12 : decode b_Mod_ask 12 = .ok (.iload_n 1, 1) := by decide +kernel
theorem d_Mod_ask_13 : decode b_Mod_ask 13 = .ok (.aload_n 0, 1) := by decide +kernel
theorem d_Mod_ask_14 : decode b_Mod_ask 14 = .ok (.getfield 39, 3) := by decide +kernel
theorem d_Mod_ask_17 : decode b_Mod_ask 17 = .ok (.if_icmp .eq 50, 3) := by decide +kernel
theorem d_Mod_ask_20 : decode b_Mod_ask 20 = .ok (.iload_n 2, 1) := by decide +kernel
theorem d_Mod_ask_21 : decode b_Mod_ask 21 = .ok (.ifCond .lt 46, 3) := by decide +kernel
theorem d_Mod_ask_24 : decode b_Mod_ask 24 = .ok (.iload_n 2, 1) := by decide +kernel
theorem d_Mod_ask_25 : decode b_Mod_ask 25 = .ok (.sipush 255, 3) := by decide +kernel
theorem d_Mod_ask_28 : decode b_Mod_ask 28 = .ok (.if_icmp .gt 39, 3) := by decide +kernel
theorem d_Mod_ask_31 : decode b_Mod_ask 31 = .ok (.iload 5, 2) := by decide +kernel
theorem d_Mod_ask_33 : decode b_Mod_ask 33 = .ok (.ifCond .lt 34, 3) := by decide +kernel
theorem d_Mod_ask_36 : decode b_Mod_ask 36 = .ok (.iload 5, 2) := by decide +kernel
theorem d_Mod_ask_38 : decode b_Mod_ask 38 = .ok (.sipush 255, 3) := by decide +kernel
theorem d_Mod_ask_41 : decode b_Mod_ask 41 = .ok (.if_icmp .gt 26, 3) := by decide +kernel
theorem d_Mod_ask_44 : decode b_Mod_ask 44 = .ok (.iload_n 3, 1) := by decide +kernel
theorem d_Mod_ask_45 : decode b_Mod_ask 45 = .ok (.ifCond .lt 22, 3) := by decide +kernel
theorem d_Mod_ask_48 : decode b_Mod_ask 48 = .ok (.iload_n 3, 1) := by decide +kernel
theorem d_Mod_ask_49 : decode b_Mod_ask 49 = .ok (.sipush 1023, 3) := by decide +kernel
theorem d_Mod_ask_52 : decode b_Mod_ask 52 = .ok (.if_icmp .gt 15, 3) := by decide +kernel
theorem d_Mod_ask_55 : decode b_Mod_ask 55 = .ok (.iload 4, 2) := by decide +kernel
theorem d_Mod_ask_57 : decode b_Mod_ask 57 = .ok (.ifCond .lt 10, 3) := by decide +kernel
theorem d_Mod_ask_60 : decode b_Mod_ask 60 = .ok (.iload 4, 2) := by decide +kernel
theorem d_Mod_ask_62 : decode b_Mod_ask 62 = .ok (.ldc 158, 2) := by decide +kernel
theorem d_Mod_ask_64 : decode b_Mod_ask 64 = .ok (.if_icmp .le 5, 3) := by decide +kernel
theorem d_Mod_ask_67 : decode b_Mod_ask 67 = .ok (.iconst 0, 1) := by decide +kernel
theorem d_Mod_ask_68 : decode b_Mod_ask 68 = .ok (.ireturn, 1) := by decide +kernel
theorem d_Mod_ask_69 : decode b_Mod_ask 69 = .ok (.aload_n 0, 1) := by decide +kernel
theorem d_Mod_ask_70 : decode b_Mod_ask 70 = .ok (.iconst 1, 1) := by decide +kernel
theorem d_Mod_ask_71 : decode b_Mod_ask 71 = .ok (.putfield 133, 3) := by decide +kernel
theorem d_Mod_ask_74 : decode b_Mod_ask 74 = .ok (.aload_n 0, 1) := by decide +kernel
theorem d_Mod_ask_75 : decode b_Mod_ask 75 = .ok (.iload_n 1, 1) := by decide +kernel
theorem d_Mod_ask_76 : decode b_Mod_ask 76 = .ok (.putfield 136, 3) := by decide +kernel
theorem d_Mod_ask_79 : decode b_Mod_ask 79 = .ok (.aload_n 0, 1) := by decide +kernel
theorem d_Mod_ask_80 : decode b_Mod_ask 80 = .ok (.getfield 25, 3) := by decide +kernel
theorem d_Mod_ask_83 : decode b_Mod_ask 83 = .ok (.iconst 0, 1) := by decide +kernel
theorem d_Mod_ask_84 : decode b_Mod_ask 84 = .ok (.iconst 1, 1) := by decide +kernel
theorem d_Mod_ask_85 : decode b_Mod_ask 85 = .ok (.iastore, 1) := by decide +kernel
theorem d_Mod_ask_86 : decode b_Mod_ask 86 = .ok (.aload_n 0, 1) := by decide +kernel
theorem d_Mod_ask_87 : decode b_Mod_ask 87 = .ok (.getfield 25, 3) := by decide +kernel
theorem d_Mod_ask_90 : decode b_Mod_ask 90 = .ok (.iconst 1, 1) := by decide +kernel
theorem d_Mod_ask_91 : decode b_Mod_ask 91 = .ok (.iconst 4, 1) := by decide +kernel
theorem d_Mod_ask_92 : decode b_Mod_ask 92 = .ok (.iastore, 1) := by decide +kernel
theorem d_Mod_ask_93 : decode b_Mod_ask 93 = .ok (.aload_n 0, 1) := by decide +kernel
theorem d_Mod_ask_94 : decode b_Mod_ask 94 = .ok (.getfield 25, 3) := by decide +kernel
theorem d_Mod_ask_97 : decode b_Mod_ask 97 = .ok (.iconst 2, 1) := by decide +kernel
theorem d_Mod_ask_98 : decode b_Mod_ask 98 = .ok (.iconst 0, 1) := by decide +kernel
theorem d_Mod_ask_99 : decode b_Mod_ask 99 = .ok (.iastore, 1) := by decide +kernel
theorem d_Mod_ask_100 : decode b_Mod_ask 100 = .ok (.aload_n 0, 1) := by decide +kernel
theorem d_Mod_ask_101 : decode b_Mod_ask 101 = .ok (.getfield 25, 3) := by decide +kernel
theorem d_Mod_ask_104 : decode b_Mod_ask 104 = .ok (.iconst 3, 1) := by decide +kernel
theorem d_Mod_ask_105 : decode b_Mod_ask 105 = .ok (.iconst 4, 1) := by decide +kernel
theorem d_Mod_ask_106 : decode b_Mod_ask 106 = .ok (.iastore, 1) := by decide +kernel
theorem d_Mod_ask_107 : decode b_Mod_ask 107 = .ok (.aload_n 0, 1) := by decide +kernel
theorem d_Mod_ask_108 : decode b_Mod_ask 108 = .ok (.getfield 25, 3) := by decide +kernel
theorem d_Mod_ask_111 : decode b_Mod_ask 111 = .ok (.iconst 4, 1) := by decide +kernel
theorem d_Mod_ask_112 : decode b_Mod_ask 112 = .ok (.iload_n 2, 1) := by decide +kernel
theorem d_Mod_ask_113 : decode b_Mod_ask 113 = .ok (.iastore, 1) := by decide +kernel
theorem d_Mod_ask_114 : decode b_Mod_ask 114 = .ok (.aload_n 0, 1) := by decide +kernel
theorem d_Mod_ask_115 : decode b_Mod_ask 115 = .ok (.getfield 25, 3) := by decide +kernel
theorem d_Mod_ask_118 : decode b_Mod_ask 118 = .ok (.iconst 5, 1) := by decide +kernel
theorem d_Mod_ask_119 : decode b_Mod_ask 119 = .ok (.bipush 12, 2) := by decide +kernel
theorem d_Mod_ask_121 : decode b_Mod_ask 121 = .ok (.iastore, 1) := by decide +kernel
theorem d_Mod_ask_122 : decode b_Mod_ask 122 = .ok (.aload_n 0, 1) := by decide +kernel
theorem d_Mod_ask_123 : decode b_Mod_ask 123 = .ok (.getfield 25, 3) := by decide +kernel
theorem d_Mod_ask_126 : decode b_Mod_ask 126 = .ok (.bipush 6, 2) := by decide +kernel
theorem d_Mod_ask_128 : decode b_Mod_ask 128 = .ok (.bipush 12, 2) := by decide +kernel
theorem d_Mod_ask_130 : decode b_Mod_ask 130 = .ok (.iastore, 1) := by decide +kernel
theorem d_Mod_ask_131 : decode b_Mod_ask 131 = .ok (.iload_n 3, 1) := by decide +kernel
theorem d_Mod_ask_132 : decode b_Mod_ask 132 = .ok (.bipush 22, 2) := by decide +kernel
theorem d_Mod_ask_134 : decode b_Mod_ask 134 = .ok (.ishl, 1) := by decide +kernel
theorem d_Mod_ask_135 : decode b_Mod_ask 135 = .ok (.iload 4, 2) := by decide +kernel
theorem d_Mod_ask_137 : decode b_Mod_ask 137 = .ok (.ior, 1) := by decide +kernel
theorem d_Mod_ask_138 : decode b_Mod_ask 138 = .ok (.istore 6, 2) := by decide +kernel
theorem d_Mod_ask_140 : decode b_Mod_ask 140 = .ok (.iconst 0, 1) := by decide +kernel
theorem d_Mod_ask_141 : decode b_Mod_ask 141 = .ok (.istore 7, 2) := by decide +kernel
theorem d_Mod_ask_143 : decode b_Mod_ask 143 = .ok (.iload 7, 2) := by decide +kernel
theorem d_Mod_ask_145 : decode b_Mod_ask 145 = .ok (.iconst 4, 1) := by decide +kernel
theorem d_Mod_ask_146 : decode b_Mod_ask 146 = .ok (.if_icmp .ge 34, 3) := by decide +kernel
theorem d_Mod_ask_149 : decode b_Mod_ask 149 = .ok (.aload_n 0, 1) := by decide +kernel
theorem d_Mod_ask_150 : decode b_Mod_ask 150 = .ok (.getfield 25, 3) := by decide +kernel
theorem d_Mod_ask_153 : decode b_Mod_ask 153 = .ok (.bipush 7, 2) := by decide +kernel
theorem d_Mod_ask_155 : decode b_Mod_ask 155 = .ok (.iload 7, 2) := by decide +kernel
theorem d_Mod_ask_157 : decode b_Mod_ask 157 = .ok (.iadd, 1) := by decide +kernel
theorem d_Mod_ask_158 : decode b_Mod_ask 158 = .ok (.iload 6, 2) := by decide +kernel
theorem d_Mod_ask_160 : decode b_Mod_ask 160 = .ok (.bipush 24, 2) := by decide +kernel
theorem d_Mod_ask_162 : decode b_Mod_ask 162 = .ok (.bipush 8, 2) := by decide +kernel
theorem d_Mod_ask_164 : decode b_Mod_ask 164 = .ok (.iload 7, 2) := by decide +kernel
theorem d_Mod_ask_166 : decode b_Mod_ask 166 = .ok (.imul, 1) := by decide +kernel
theorem d_Mod_ask_167 : decode b_Mod_ask 167 = .ok (.isub, 1) := by decide +kernel
theorem d_Mod_ask_168 : decode b_Mod_ask 168 = .ok (.iushr, 1) := by decide +kernel
theorem d_Mod_ask_169 : decode b_Mod_ask 169 = .ok (.sipush 255, 3) := by decide +kernel
theorem d_Mod_ask_172 : decode b_Mod_ask 172 = .ok (.iand, 1) := by decide +kernel
theorem d_Mod_ask_173 : decode b_Mod_ask 173 = .ok (.iastore, 1) := by decide +kernel
theorem d_Mod_ask_174 : decode b_Mod_ask 174 = .ok (.iinc 7 1, 3) := by decide +kernel
theorem d_Mod_ask_177 : decode b_Mod_ask 177 = .ok (.goto (-34), 3) := by decide +kernel
theorem d_Mod_ask_180 : decode b_Mod_ask 180 = .ok (.aload_n 0, 1) := by decide +kernel
theorem d_Mod_ask_181 : decode b_Mod_ask 181 = .ok (.getfield 25, 3) := by decide +kernel
theorem d_Mod_ask_184 : decode b_Mod_ask 184 = .ok (.bipush 11, 2) := by decide +kernel
theorem d_Mod_ask_186 : decode b_Mod_ask 186 = .ok (.bipush 25, 2) := by decide +kernel
theorem d_Mod_ask_188 : decode b_Mod_ask 188 = .ok (.iastore, 1) := by decide +kernel
theorem d_Mod_ask_189 : decode b_Mod_ask 189 = .ok (.aload_n 0, 1) := by decide +kernel
theorem d_Mod_ask_190 : decode b_Mod_ask 190 = .ok (.getfield 25, 3) := by decide +kernel
theorem d_Mod_ask_193 : decode b_Mod_ask 193 = .ok (.bipush 12, 2) := by decide +kernel
theorem d_Mod_ask_195 : decode b_Mod_ask 195 = .ok (.iload 5, 2) := by decide +kernel
theorem d_Mod_ask_197 : decode b_Mod_ask 197 = .ok (.iastore, 1) := by decide +kernel
theorem d_Mod_ask_198 : decode b_Mod_ask 198 = .ok (.iconst 1, 1) := by decide +kernel
theorem d_Mod_ask_199 : decode b_Mod_ask 199 = .ok (.ireturn, 1) := by decide +kernel
theorem d_Mod_replied_0 : decode b_Mod_replied 0 = .ok (.aload_n 0, 1) := by decide +kernel
theorem d_Mod_replied_1 : decode b_Mod_replied 1 = .ok (.getfield 139, 3) := by decide +kernel
theorem d_Mod_replied_4 : decode b_Mod_replied 4 = .ok (.ireturn, 1) := by decide +kernel
theorem d_Mod_reply_0 : decode b_Mod_reply 0 = .ok (.iload_n 1, 1) := by decide +kernel
theorem d_Mod_reply_1 : decode b_Mod_reply 1 = .ok (.ifCond .lt 20, 3) := by decide +kernel
theorem d_Mod_reply_4 : decode b_Mod_reply 4 = .ok (.iload_n 1, 1) := by decide +kernel
theorem d_Mod_reply_5 : decode b_Mod_reply 5 = .ok (.aload_n 0, 1) := by decide +kernel
theorem d_Mod_reply_6 : decode b_Mod_reply 6 = .ok (.getfield 139, 3) := by decide +kernel
theorem d_Mod_reply_9 : decode b_Mod_reply 9 = .ok (.if_icmp .ge 12, 3) := by decide +kernel
theorem d_Mod_reply_12 : decode b_Mod_reply 12 = .ok (.aload_n 0, 1) := by decide +kernel
theorem d_Mod_reply_13 : decode b_Mod_reply 13 = .ok (.getfield 22, 3) := by decide +kernel
theorem d_Mod_reply_16 : decode b_Mod_reply 16 = .ok (.iload_n 1, 1) := by decide +kernel
theorem d_Mod_reply_17 : decode b_Mod_reply 17 = .ok (.iaload, 1) := by decide +kernel
theorem d_Mod_reply_18 : decode b_Mod_reply 18 = .ok (.goto 4, 3) := by decide +kernel
theorem d_Mod_reply_21 : decode b_Mod_reply 21 = .ok (.iconst (-1), 1) := by decide +kernel
theorem d_Mod_reply_22 : decode b_Mod_reply 22 = .ok (.ireturn, 1) := by decide +kernel
theorem d_Mod_state_0 : decode b_Mod_state 0 = .ok (.aload_n 0, 1) := by decide +kernel
theorem d_Mod_state_1 : decode b_Mod_state 1 = .ok (.getfield 100, 3) := by decide +kernel
theorem d_Mod_state_4 : decode b_Mod_state 4 = .ok (.bipush 8, 2) := by decide +kernel
theorem d_Mod_state_6 : decode b_Mod_state 6 = .ok (.aload_n 0, 1) := by decide +kernel
theorem d_Mod_state_7 : decode b_Mod_state 7 = .ok (.getfield 42, 3) := by decide +kernel
theorem d_Mod_state_10 : decode b_Mod_state 10 = .ok (.imul, 1) := by decide +kernel
theorem d_Mod_state_11 : decode b_Mod_state 11 = .ok (.iadd, 1) := by decide +kernel
theorem d_Mod_state_12 : decode b_Mod_state 12 = .ok (.sipush 128, 3) := by decide +kernel
theorem d_Mod_state_15 : decode b_Mod_state 15 = .ok (.aload_n 0, 1) := by decide +kernel
theorem d_Mod_state_16 : decode b_Mod_state 16 = .ok (.getfield 45, 3) := by decide +kernel
theorem d_Mod_state_19 : decode b_Mod_state 19 = .ok (.imul, 1) := by decide +kernel
theorem d_Mod_state_20 : decode b_Mod_state 20 = .ok (.iadd, 1) := by decide +kernel
theorem d_Mod_state_21 : decode b_Mod_state 21 = .ok (.aload_n 0, 1) := by decide +kernel
theorem d_Mod_state_22 : decode b_Mod_state 22 = .ok (.getfield 124, 3) := by decide +kernel
theorem d_Mod_state_25 : decode b_Mod_state 25 = .ok (.ifCond .eq 9, 3) := by decide +kernel
theorem d_Mod_state_28 : decode b_Mod_state 28 = .ok (.sipush 2048, 3) := by decide +kernel
theorem d_Mod_state_31 : decode b_Mod_state 31 = .ok (.goto 4, 3) := by decide +kernel
theorem d_Mod_state_34 : decode b_Mod_state 34 = .ok (.iconst 0, 1) := by decide +kernel
theorem d_Mod_state_35 : decode b_Mod_state 35 = .ok (.iadd, 1) := by decide +kernel
theorem d_Mod_state_36 : decode b_Mod_state 36 = .ok (.aload_n 0, 1) := by decide +kernel
theorem d_Mod_state_37 : decode b_Mod_state 37 = .ok (.getfield 133, 3) := by decide +kernel
theorem d_Mod_state_40 : decode b_Mod_state 40 = .ok (.ifCond .eq 9, 3) := by decide +kernel
theorem d_Mod_state_43 : decode b_Mod_state 43 = .ok (.sipush 4096, 3) := by decide +kernel
theorem d_Mod_state_46 : decode b_Mod_state 46 = .ok (.goto 4, 3) := by decide +kernel
theorem d_Mod_state_49 : decode b_Mod_state 49 = .ok (.iconst 0, 1) := by decide +kernel
theorem d_Mod_state_50 : decode b_Mod_state 50 = .ok (.iadd, 1) := by decide +kernel
theorem d_Mod_state_51 : decode b_Mod_state 51 = .ok (.ireturn, 1) := by decide +kernel
theorem d_Mod_silence_0 : decode b_Mod_silence 0 = .ok (.aload_n 0, 1) := by decide +kernel
theorem d_Mod_silence_1 : decode b_Mod_silence 1 = .ok (.getfield 64, 3) := by decide +kernel
theorem d_Mod_silence_4 : decode b_Mod_silence 4 = .ok (.sipush 1000, 3) := by decide +kernel
theorem d_Mod_silence_7 : decode b_Mod_silence 7 = .ok (.if_icmp .le 9, 3) := by decide +kernel
theorem d_Mod_silence_10 : decode b_Mod_silence 10 = .ok (.sipush 1000, 3) := by decide +kernel
theorem d_Mod_silence_13 : decode b_Mod_silence 13 = .ok (.goto 7, 3) := by decide +kernel
theorem d_Mod_silence_16 : decode b_Mod_silence 16 = .ok (.aload_n 0, 1) := by decide +kernel
theorem d_Mod_silence_17 : decode b_Mod_silence 17 = .ok (.getfield 64, 3) := by decide +kernel
theorem d_Mod_silence_20 : decode b_Mod_silence 20 = .ok (.ireturn, 1) := by decide +kernel
theorem d_Mod_set_0 : decode b_Mod_set 0 = .ok (.iload_n 1, 1) := by decide +kernel
theorem d_Mod_set_1 : decode b_Mod_set 1 = .ok (.ifCond .lt 46, 3) := by decide +kernel
theorem d_Mod_set_4 : decode b_Mod_set 4 = .ok (.iload_n 1, 1) := by decide +kernel
theorem d_Mod_set_5 : decode b_Mod_set 5 = .ok (.iconst 3, 1) := by decide +kernel
theorem d_Mod_set_6 : decode b_Mod_set 6 = .ok (.if_icmp .gt 41, 3) := by decide +kernel
theorem d_Mod_set_9 : decode b_Mod_set 9 = .ok (.iload_n 2, 1) := by decide +kernel
theorem d_Mod_set_10 : decode b_Mod_set 10 = .ok (.ifCond .lt 37, 3) := by decide +kernel
theorem d_Mod_set_13 : decode b_Mod_set 13 = .ok (.iload_n 2, 1) := by decide +kernel
theorem d_Mod_set_14 : decode b_Mod_set 14 = .ok (.bipush 16, 2) := by decide +kernel
theorem d_Mod_set_16 : decode b_Mod_set 16 = .ok (.if_icmp .gt 31, 3) := by decide +kernel
theorem d_Mod_set_19 : decode b_Mod_set 19 = .ok (.iload_n 2, 1) := by decide +kernel
theorem d_Mod_set_20 : decode b_Mod_set 20 = .ok (.ifCond .ne 8, 3) := by decide +kernel
theorem d_Mod_set_23 : decode b_Mod_set 23 = .ok (.iload 4, 2) := by decide +kernel
theorem d_Mod_set_25 : decode b_Mod_set 25 = .ok (.ifCond .ne 22, 3) := by decide +kernel
theorem d_Mod_set_28 : decode b_Mod_set 28 = .ok (.iload 4, 2) := by decide +kernel
theorem d_Mod_set_30 : decode b_Mod_set 30 = .ok (.ifCond .ne 19, 3) := by decide +kernel
theorem d_Mod_set_33 : decode b_Mod_set 33 = .ok (.iload_n 1, 1) := by decide +kernel
theorem d_Mod_set_34 : decode b_Mod_set 34 = .ok (.iconst 1, 1) := by decide +kernel
theorem d_Mod_set_35 : decode b_Mod_set 35 = .ok (.if_icmp .le 14, 3) := by decide +kernel
theorem d_Mod_set_38 : decode b_Mod_set 38 = .ok (.iload_n 3, 1) := by decide +kernel
theorem d_Mod_set_39 : decode b_Mod_set 39 = .ok (.ifCond .eq 10, 3) := by decide +kernel
theorem d_Mod_set_42 : decode b_Mod_set 42 = .ok (.iload_n 3, 1) := by decide +kernel
theorem d_Mod_set_43 : decode b_Mod_set 43 = .ok (.iconst 1, 1) := by decide +kernel
theorem d_Mod_set_44 : decode b_Mod_set 44 = .ok (.if_icmp .eq 5, 3) := by decide +kernel
theorem d_Mod_set_47 : decode b_Mod_set 47 = .ok (.iconst 0, 1) := by decide +kernel
theorem d_Mod_set_48 : decode b_Mod_set 48 = .ok (.ireturn, 1) := by decide +kernel
theorem d_Mod_set_49 : decode b_Mod_set 49 = .ok (.aload_n 0, 1) := by decide +kernel
theorem d_Mod_set_50 : decode b_Mod_set 50 = .ok (.getfield 28, 3) := by decide +kernel
theorem d_Mod_set_53 : decode b_Mod_set 53 = .ok (.bipush 17, 2) := by decide +kernel
theorem d_Mod_set_55 : decode b_Mod_set 55 = .ok (.iload_n 1, 1) := by decide +kernel
theorem d_Mod_set_56 : decode b_Mod_set 56 = .ok (.imul, 1) := by decide +kernel
theorem d_Mod_set_57 : decode b_Mod_set 57 = .ok (.iload_n 2, 1) := by decide +kernel
theorem d_Mod_set_58 : decode b_Mod_set 58 = .ok (.iadd, 1) := by decide +kernel
theorem d_Mod_set_59 : decode b_Mod_set 59 = .ok (.iload_n 3, 1) := by decide +kernel
theorem d_Mod_set_60 : decode b_Mod_set 60 = .ok (.iastore, 1) := by decide +kernel
theorem d_Mod_set_61 : decode b_Mod_set 61 = .ok (.aload_n 0, 1) := by decide +kernel
theorem d_Mod_set_62 : decode b_Mod_set 62 = .ok (.getfield 31, 3) := by decide +kernel
theorem d_Mod_set_65 : decode b_Mod_set 65 = .ok (.bipush 17, 2) := by decide +kernel
theorem d_Mod_set_67 : decode b_Mod_set 67 = .ok (.iload_n 1, 1) := by decide +kernel
theorem d_Mod_set_68 : decode b_Mod_set 68 = .ok (.imul, 1) := by decide +kernel
theorem d_Mod_set_69 : decode b_Mod_set 69 = .ok (.iload_n 2, 1) := by decide +kernel
theorem d_Mod_set_70 : decode b_Mod_set 70 = .ok (.iadd, 1) := by decide +kernel
theorem d_Mod_set_71 : decode b_Mod_set 71 = .ok (.iload 4, 2) := by decide +kernel
theorem d_Mod_set_73 : decode b_Mod_set 73 = .ok (.ifCond .ne 7, 3) := by decide +kernel
theorem d_Mod_set_76 : decode b_Mod_set 76 = .ok (.iconst 1, 1) := by decide +kernel
theorem d_Mod_set_77 : decode b_Mod_set 77 = .ok (.goto 4, 3) := by decide +kernel
theorem d_Mod_set_80 : decode b_Mod_set 80 = .ok (.iconst 0, 1) := by decide +kernel
theorem d_Mod_set_81 : decode b_Mod_set 81 = .ok (.bastore, 1) := by decide +kernel
theorem d_Mod_set_82 : decode b_Mod_set 82 = .ok (.iconst 1, 1) := by decide +kernel
theorem d_Mod_set_83 : decode b_Mod_set 83 = .ok (.ireturn, 1) := by decide +kernel
theorem d_Mod_present_0 : decode b_Mod_present 0 = .ok (.iload_n 1, 1) := by decide +kernel
theorem d_Mod_present_1 : decode b_Mod_present 1 = .ok (.ifCond .lt 16, 3) := by decide +kernel
theorem d_Mod_present_4 : decode b_Mod_present 4 = .ok (.iload_n 1, 1) := by decide +kernel
theorem d_Mod_present_5 : decode b_Mod_present 5 = .ok (.iconst 4, 1) := by decide +kernel
theorem d_Mod_present_6 : decode b_Mod_present 6 = .ok (.if_icmp .ge 11, 3) := by decide +kernel
theorem d_Mod_present_9 : decode b_Mod_present 9 = .ok (.aload_n 0, 1) := by decide +kernel
theorem d_Mod_present_10 : decode b_Mod_present 10 = .ok (.iload_n 1, 1) := by decide +kernel
theorem d_Mod_present_11 : decode b_Mod_present 11 = .ok (.invokevirtual 204, 3) := by decide +kernel
theorem d_Mod_present_14 : decode b_Mod_present 14 = .ok (.goto 4, 3) := by decide +kernel
theorem d_Mod_present_17 : decode b_Mod_present 17 = .ok (.iconst 0, 1) := by decide +kernel
theorem d_Mod_present_18 : decode b_Mod_present 18 = .ok (.ireturn, 1) := by decide +kernel
