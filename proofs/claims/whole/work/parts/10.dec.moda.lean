theorem d_Mod_init_0 : decode b_Mod_init 0 = .ok (.aload_n 0, 1) := by decide +kernel
theorem d_Mod_init_1 : decode b_Mod_init 1 = .ok (.invokespecial 1, 3) := by decide +kernel
theorem d_Mod_init_4 : decode b_Mod_init 4 = .ok (.aload_n 0, 1) := by decide +kernel
theorem d_Mod_init_5 : decode b_Mod_init 5 = .ok (.bipush 6, 2) := by decide +kernel
theorem d_Mod_init_7 : decode b_Mod_init 7 = .ok (.newarray .int, 2) := by decide +kernel
theorem d_Mod_init_9 : decode b_Mod_init 9 = .ok (.putfield 7, 3) := by decide +kernel
theorem d_Mod_init_12 : decode b_Mod_init 12 = .ok (.aload_n 0, 1) := by decide +kernel
theorem d_Mod_init_13 : decode b_Mod_init 13 = .ok (.bipush 42, 2) := by decide +kernel
theorem d_Mod_init_15 : decode b_Mod_init 15 = .ok (.newarray .int, 2) := by decide +kernel
theorem d_Mod_init_17 : decode b_Mod_init 17 = .ok (.putfield 13, 3) := by decide +kernel
theorem d_Mod_init_20 : decode b_Mod_init 20 = .ok (.aload_n 0, 1) := by decide +kernel
theorem d_Mod_init_21 : decode b_Mod_init 21 = .ok (.sipush 1024, 3) := by decide +kernel
theorem d_Mod_init_24 : decode b_Mod_init 24 = .ok (.newarray .int, 2) := by decide +kernel
theorem d_Mod_init_26 : decode b_Mod_init 26 = .ok (.putfield 16, 3) := by decide +kernel
theorem d_Mod_init_29 : decode b_Mod_init 29 = .ok (.aload_n 0, 1) := by decide +kernel
theorem d_Mod_init_30 : decode b_Mod_init 30 = .ok (.bipush 48, 2) := by decide +kernel
theorem d_Mod_init_32 : decode b_Mod_init 32 = .ok (.newarray .int, 2) := by decide +kernel
theorem d_Mod_init_34 : decode b_Mod_init 34 = .ok (.putfield 19, 3) := by decide +kernel
theorem d_Mod_init_37 : decode b_Mod_init 37 = .ok (.aload_n 0, 1) := by decide +kernel
theorem d_Mod_init_38 : decode b_Mod_init 38 = .ok (.bipush 40, 2) := by decide +kernel
theorem d_Mod_init_40 : decode b_Mod_init 40 = .ok (.newarray .int, 2) := by decide +kernel
theorem d_Mod_init_42 : decode b_Mod_init 42 = .ok (.putfield 22, 3) := by decide +kernel
theorem d_Mod_init_45 : decode b_Mod_init 45 = .ok (.aload_n 0, 1) := by decide +kernel
theorem d_Mod_init_46 : decode b_Mod_init 46 = .ok (.bipush 13, 2) := by decide +kernel
theorem d_Mod_init_48 : decode b_Mod_init 48 = .ok (.newarray .int, 2) := by decide +kernel
theorem d_Mod_init_50 : decode b_Mod_init 50 = .ok (.putfield 25, 3) := by decide +kernel
theorem d_Mod_init_53 : decode b_Mod_init 53 = .ok (.aload_n 0, 1) := by decide +kernel
theorem d_Mod_init_54 : decode b_Mod_init 54 = .ok (.bipush 68, 2) := by decide +kernel
theorem d_Mod_init_56 : decode b_Mod_init 56 = .ok (.newarray .int, 2) := by decide +kernel
theorem d_Mod_init_58 : decode b_Mod_init 58 = .ok (.putfield 28, 3) := by decide +kernel
theorem d_Mod_init_61 : decode b_Mod_init 61 = .ok (.aload_n 0, 1) := by decide +kernel
theorem d_Mod_init_62 : decode b_Mod_init 62 = .ok (.bipush 68, 2) := by decide +kernel
theorem d_Mod_init_64 : decode b_Mod_init 64 = .ok (.newarray .boolean, 2) := by decide +kernel
theorem d_Mod_init_66 : decode b_Mod_init 66 = .ok (.putfield 31, 3) := by decide +kernel
theorem d_Mod_init_69 : decode b_Mod_init 69 = .ok (.aload_n 0, 1) := by decide +kernel
theorem d_Mod_init_70 : decode b_Mod_init 70 = .ok (.iload_n 2, 1) := by decide +kernel
theorem d_Mod_init_71 : decode b_Mod_init 71 = .ok (.iconst 1, 1) := by decide +kernel
theorem d_Mod_init_72 : decode b_Mod_init 72 = .ok (.if_icmp .ge 7, 3) := by decide +kernel
theorem d_Mod_init_75 : decode b_Mod_init 75 = .ok (.iconst 1, 1) := by decide +kernel
theorem d_Mod_init_76 : decode b_Mod_init 76 = .ok (.goto 15, 3) := by decide +kernel
theorem d_Mod_init_79 : decode b_Mod_init 79 = .ok (.iload_n 2, 1) := by decide +kernel
theorem d_Mod_init_80 : decode b_Mod_init 80 = .ok (.bipush 15, 2) := by decide +kernel
theorem d_Mod_init_82 : decode b_Mod_init 82 = .ok (.if_icmp .le 8, 3) := by decide +kernel
theorem d_Mod_init_85 : decode b_Mod_init 85 = .ok (.bipush 15, 2) := by decide +kernel
theorem d_Mod_init_87 : decode b_Mod_init 87 = .ok (.goto 4, 3) := by decide +kernel
theorem d_Mod_init_90 : decode b_Mod_init 90 = .ok (.iload_n 2, 1) := by decide +kernel
theorem d_Mod_init_91 : decode b_Mod_init 91 = .ok (.putfield 35, 3) := by decide +kernel
theorem d_Mod_init_94 : decode b_Mod_init 94 = .ok (.aload_n 0, 1) := by decide +kernel
theorem d_Mod_init_95 : decode b_Mod_init 95 = .ok (.iload_n 1, 1) := by decide +kernel
theorem d_Mod_init_96 : decode b_Mod_init 96 = .ok (.ifCond .ge 7, 3) := by decide +kernel
theorem d_Mod_init_99 : decode b_Mod_init 99 = .ok (.iconst 0, 1) := by decide +kernel
theorem d_Mod_init_100 : decode b_Mod_init 100 = .ok (.goto 19, 3) := by decide +kernel
theorem d_Mod_init_103 : decode b_Mod_init 103 = .ok (.iload_n 1, 1) := by decide +kernel
theorem d_Mod_init_104 : decode b_Mod_init 104 = .ok (.aload_n 0, 1) := by decide +kernel
theorem d_Mod_init_105 : decode b_Mod_init 105 = .ok (.getfield 35, 3) := by decide +kernel
theorem d_Mod_init_108 : decode b_Mod_init 108 = .ok (.if_icmp .le 10, 3) := by decide +kernel
theorem d_Mod_init_111 : decode b_Mod_init 111 = .ok (.aload_n 0, 1) := by decide +kernel
theorem d_Mod_init_112 : decode b_Mod_init 112 = .ok (.getfield 35, 3) := by decide +kernel
theorem d_Mod_init_115 : decode b_Mod_init 115 = .ok (.goto 4, 3) := by decide +kernel
theorem d_Mod_init_118 : decode b_Mod_init 118 = .ok (.iload_n 1, 1) := by decide +kernel
theorem d_Mod_init_119 : decode b_Mod_init 119 = .ok (.putfield 39, 3) := by decide +kernel
theorem d_Mod_init_122 : decode b_Mod_init 122 = .ok (.aload_n 0, 1) := by decide +kernel
theorem d_Mod_init_123 : decode b_Mod_init 123 = .ok (.aload_n 0, 1) := by decide +kernel
theorem d_Mod_init_124 : decode b_Mod_init 124 = .ok (.getfield 39, 3) := by decide +kernel
theorem d_Mod_init_127 : decode b_Mod_init 127 = .ok (.putfield 42, 3) := by decide +kernel
theorem d_Mod_init_130 : decode b_Mod_init 130 = .ok (.aload_n 0, 1) := by decide +kernel
theorem d_Mod_init_131 : decode b_Mod_init 131 = .ok (.aload_n 0, 1) := by decide +kernel
theorem d_Mod_init_132 : decode b_Mod_init 132 = .ok (.getfield 39, 3) := by decide +kernel
theorem d_Mod_init_135 : decode b_Mod_init 135 = .ok (.putfield 45, 3) := by decide +kernel
theorem d_Mod_init_138 : decode b_Mod_init 138 = .ok (.return_, 1) := by decide +kernel
theorem d_Mod_hear_0 : decode b_Mod_hear 0 = .ok (.iload_n 1, 1) := by decide +kernel
theorem d_Mod_hear_1 : decode b_Mod_hear 1 = .ok (.ifCond .lt 10, 3) := by decide +kernel
theorem d_Mod_hear_4 : decode b_Mod_hear 4 = .ok (.iload_n 1, 1) := by decide +kernel
theorem d_Mod_hear_5 : decode b_Mod_hear 5 = .ok (.sipush 255, 3) := by decide +kernel
theorem d_Mod_hear_8 : decode b_Mod_hear 8 = .ok (.if_icmp .le 5, 3) := by decide +kernel
theorem d_Mod_hear_11 : decode b_Mod_hear 11 = .ok (.iconst (-1), 1) := by decide +kernel
theorem d_Mod_hear_12 : decode b_Mod_hear 12 = .ok (.ireturn, 1) := by decide +kernel
theorem d_Mod_hear_13 : decode b_Mod_hear 13 = .ok (.aload_n 0, 1) := by decide +kernel
theorem d_Mod_hear_14 : decode b_Mod_hear 14 = .ok (.iconst 0, 1) := by decide +kernel
theorem d_Mod_hear_15 : decode b_Mod_hear 15 = .ok (.putfield 49, 3) := by decide +kernel
theorem d_Mod_hear_18 : decode b_Mod_hear 18 = .ok (.aload_n 0, 1) := by decide +kernel
theorem d_Mod_hear_19 : decode b_Mod_hear 19 = .ok (.iconst 0, 1) := by decide +kernel
theorem d_Mod_hear_20 : decode b_Mod_hear 20 = .ok (.putfield 64, 3) := by decide +kernel
theorem d_Mod_hear_23 : decode b_Mod_hear 23 = .ok (.aload_n 0, 1) := by decide +kernel
theorem d_Mod_hear_24 : decode b_Mod_hear 24 = .ok (.dup, 1) := by decide +kernel
theorem d_Mod_hear_25 : decode b_Mod_hear 25 = .ok (.getfield 71, 3) := by decide +kernel
theorem d_Mod_hear_28 : decode b_Mod_hear 28 = .ok (.iconst 1, 1) := by decide +kernel
theorem d_Mod_hear_29 : decode b_Mod_hear 29 = .ok (.iadd, 1) := by decide +kernel
theorem d_Mod_hear_30 : decode b_Mod_hear 30 = .ok (.putfield 71, 3) := by decide +kernel
theorem d_Mod_hear_33 : decode b_Mod_hear 33 = .ok (.aload_n 0, 1) := by decide +kernel
theorem d_Mod_hear_34 : decode b_Mod_hear 34 = .ok (.iconst 0, 1) := by decide +kernel
theorem d_Mod_hear_35 : decode b_Mod_hear 35 = .ok (.putfield 94, 3) := by decide +kernel
theorem d_Mod_hear_38 : decode b_Mod_hear 38 = .ok (.aload_n 0, 1) := by decide +kernel
theorem d_Mod_hear_39 : decode b_Mod_hear 39 = .ok (.iconst 0, 1) := by decide +kernel
theorem d_Mod_hear_40 : decode b_Mod_hear 40 = .ok (.putfield 86, 3) := by decide +kernel
theorem d_Mod_hear_43 : decode b_Mod_hear 43 = .ok (.aload_n 0, 1) := by decide +kernel
theorem d_Mod_hear_44 : decode b_Mod_hear 44 = .ok (.iload_n 1, 1) := by decide +kernel
theorem d_Mod_hear_45 : decode b_Mod_hear 45 = .ok (.invokevirtual 210, 3) := by decide +kernel
theorem d_Mod_hear_48 : decode b_Mod_hear 48 = .ok (.aload_n 0, 1) := by decide +kernel
theorem d_Mod_hear_49 : decode b_Mod_hear 49 = .ok (.invokevirtual 213, 3) := by decide +kernel
theorem d_Mod_hear_52 : decode b_Mod_hear 52 = .ok (.aload_n 0, 1) := by decide +kernel
theorem d_Mod_hear_53 : decode b_Mod_hear 53 = .ok (.getfield 49, 3) := by decide +kernel
theorem d_Mod_hear_56 : decode b_Mod_hear 56 = .ok (.ireturn, 1) := by decide +kernel
theorem d_Mod_listen_0 : decode b_Mod_listen 0 = .ok (.aload_n 0, 1) := by decide +kernel
theorem d_Mod_listen_1 : decode b_Mod_listen 1 = .ok (.getfield 74, 3) := by decide +kernel
theorem d_Mod_listen_4 : decode b_Mod_listen 4 = .ok (.ifCond .ne 21, 3) := by decide +kernel
theorem d_Mod_listen_7 : decode b_Mod_listen 7 = .ok (.aload_n 0, 1) := by decide +kernel
theorem d_Mod_listen_8 : decode b_Mod_listen 8 = .ok (.iload_n 1, 1) := by decide +kernel
theorem d_Mod_listen_9 : decode b_Mod_listen 9 = .ok (.bipush 85, 2) := by decide +kernel
theorem d_Mod_listen_11 : decode b_Mod_listen 11 = .ok (.if_icmp .ne 7, 3) := by decide +kernel
theorem d_Mod_listen_14 : decode b_Mod_listen 14 = .ok (.iconst 1, 1) := by decide +kernel
theorem d_Mod_listen_15 : decode b_Mod_listen 15 = .ok (.goto 4, 3) := by decide +kernel
theorem d_Mod_listen_18 : decode b_Mod_listen 18 = .ok (.iconst 0, 1) := by decide +kernel
theorem d_Mod_listen_19 : decode b_Mod_listen 19 = .ok (.putfield 74, 3) := by decide +kernel
theorem d_Mod_listen_22 : decode b_Mod_listen 22 = .ok (.goto 128, 3) := by decide +kernel
theorem d_Mod_listen_25 : decode b_Mod_listen 25 = .ok (.aload_n 0, 1) := by decide +kernel
theorem d_Mod_listen_26 : decode b_Mod_listen 26 = .ok (.getfield 74, 3) := by decide +kernel
theorem d_Mod_listen_29 : decode b_Mod_listen 29 = .ok (.iconst 1, 1) := by decide +kernel
theorem d_Mod_listen_30 : decode b_Mod_listen 30 = .ok (.if_icmp .ne 32, 3) := by decide +kernel
theorem d_Mod_listen_33 : decode b_Mod_listen 33 = .ok (.aload_n 0, 1) := by decide +kernel
theorem d_Mod_listen_34 : decode b_Mod_listen 34 = .ok (.iload_n 1, 1) := by decide +kernel
theorem d_Mod_listen_35 : decode b_Mod_listen 35 = .ok (.sipush 255, 3) := by decide +kernel
theorem d_Mod_listen_38 : decode b_Mod_listen 38 = .ok (.if_icmp .ne 7, 3) := by decide +kernel
theorem d_Mod_listen_41 : decode b_Mod_listen 41 = .ok (.iconst 2, 1) := by decide +kernel
theorem d_Mod_listen_42 : decode b_Mod_listen 42 = .ok (.goto 14, 3) := by decide +kernel
theorem d_Mod_listen_45 : decode b_Mod_listen 45 = .ok (.iload_n 1, 1) := by decide +kernel
theorem d_Mod_listen_46 : decode b_Mod_listen 46 = .ok (.bipush 85, 2) := by decide +kernel
theorem d_Mod_listen_48 : decode b_Mod_listen 48 = .ok (.if_icmp .ne 7, 3) := by decide +kernel
theorem d_Mod_listen_51 : decode b_Mod_listen 51 = .ok (.iconst 1, 1) := by decide +kernel
theorem d_Mod_listen_52 : decode b_Mod_listen 52 = .ok (.goto 4, 3) := by decide +kernel
theorem d_Mod_listen_55 : decode b_Mod_listen 55 = .ok (.iconst 0, 1) := by decide +kernel
theorem d_Mod_listen_56 : decode b_Mod_listen 56 = .ok (.putfield 74, 3) := by decide +kernel
theorem d_Mod_listen_59 : decode b_Mod_listen 59 = .ok (.goto 91, 3) := by decide +kernel
theorem d_Mod_listen_62 : decode b_Mod_listen 62 = .ok (.aload_n 0, 1) := by decide +kernel
theorem d_Mod_listen_63 : decode b_Mod_listen 63 = .ok (.getfield 74, 3) := by decide +kernel
theorem d_Mod_listen_66 : decode b_Mod_listen 66 = .ok (.bipush 8, 2) := by decide +kernel
theorem d_Mod_listen_68 : decode b_Mod_listen 68 = .ok (.if_icmp .ge 41, 3) := by decide +kernel
theorem d_Mod_listen_71 : decode b_Mod_listen 71 = .ok (.aload_n 0, 1) := by decide +kernel
theorem d_Mod_listen_72 : decode b_Mod_listen 72 = .ok (.getfield 7, 3) := by decide +kernel
theorem d_Mod_listen_75 : decode b_Mod_listen 75 = .ok (.aload_n 0, 1) := by decide +kernel
theorem d_Mod_listen_76 : decode b_Mod_listen 76 = .ok (.getfield 74, 3) := by decide +kernel
theorem d_Mod_listen_79 : decode b_Mod_listen 79 = .ok (.iconst 2, 1) := by decide +kernel
theorem d_Mod_listen_80 : decode b_Mod_listen 80 = .ok (.isub, 1) := by decide +kernel
theorem d_Mod_listen_81 : decode b_Mod_listen 81 = .ok (.iload_n 1, 1) := by decide +kernel
theorem d_Mod_listen_82 : decode b_Mod_listen 82 = .ok (.iastore, 1) := by decide +kernel
theorem d_Mod_listen_83 : decode b_Mod_listen 83 = .ok (.aload_n 0, 1) := by decide +kernel
theorem d_Mod_listen_84 : decode b_Mod_listen 84 = .ok (.dup, 1) := by decide +kernel
theorem d_Mod_listen_85 : decode b_Mod_listen 85 = .ok (.getfield 74, 3) := by decide +kernel
theorem d_Mod_listen_88 : decode b_Mod_listen 88 = .ok (.iconst 1, 1) := by decide +kernel
theorem d_Mod_listen_89 : decode b_Mod_listen 89 = .ok (.iadd, 1) := by decide +kernel
theorem d_Mod_listen_90 : decode b_Mod_listen 90 = .ok (.putfield 74, 3) := by decide +kernel
theorem d_Mod_listen_93 : decode b_Mod_listen 93 = .ok (.aload_n 0, 1) := by decide +kernel
theorem d_Mod_listen_94 : decode b_Mod_listen 94 = .ok (.getfield 74, 3) := by decide +kernel
theorem d_Mod_listen_97 : decode b_Mod_listen 97 = .ok (.bipush 8, 2) := by decide +kernel
theorem d_Mod_listen_99 : decode b_Mod_listen 99 = .ok (.if_icmp .ne 51, 3) := by decide +kernel
theorem d_Mod_listen_102 : decode b_Mod_listen 102 = .ok (.aload_n 0, 1) := by decide +kernel
theorem d_Mod_listen_103 : decode b_Mod_listen 103 = .ok (.invokevirtual 77, 3) := by decide +kernel
theorem d_Mod_listen_106 : decode b_Mod_listen 106 = .ok (.goto 44, 3) := by decide +kernel
theorem d_Mod_listen_109 : decode b_Mod_listen 109 = .ok (.aload_n 0, 1) := by decide +kernel
theorem d_Mod_listen_110 : decode b_Mod_listen 110 = .ok (.getfield 13, 3) := by decide +kernel
theorem d_Mod_listen_113 : decode b_Mod_listen 113 = .ok (.aload_n 0, 1) := by decide +kernel
theorem d_Mod_listen_114 : decode b_Mod_listen 114 = .ok (.getfield 74, 3) := by decide +kernel
theorem d_Mod_listen_117 : decode b_Mod_listen 117 = .ok (.bipush 8, 2) := by decide +kernel
theorem d_Mod_listen_119 : decode b_Mod_listen 119 = .ok (.isub, 1) := by decide +kernel
theorem d_Mod_listen_120 : decode b_Mod_listen 120 = .ok (.iload_n 1, 1) := by decide +kernel
theorem d_Mod_listen_121 : decode b_Mod_listen 121 = .ok (.iastore, 1) := by decide +kernel
theorem d_Mod_listen_122 : decode b_Mod_listen 122 = .ok (.aload_n 0, 1) := by decide +kernel
theorem d_Mod_listen_123 : decode b_Mod_listen 123 = .ok (.dup, 1) := by decide +kernel
theorem d_Mod_listen_124 : decode b_Mod_listen 124 = .ok (.getfield 74, 3) := by decide +kernel
theorem d_Mod_listen_127 : decode b_Mod_listen 127 = .ok (.iconst 1, 1) := by decide +kernel
theorem d_Mod_listen_128 : decode b_Mod_listen 128 = .ok (.iadd, 1) := by decide +kernel
theorem d_Mod_listen_129 : decode b_Mod_listen 129 = .ok (.putfield 74, 3) := by decide +kernel
theorem d_Mod_listen_132 : decode b_Mod_listen 132 = .ok (.aload_n 0, 1) := by decide +kernel
theorem d_Mod_listen_133 : decode b_Mod_listen 133 = .ok (.getfield 74, 3) := by decide +kernel
theorem d_Mod_listen_136 : decode b_Mod_listen 136 = .ok (.bipush 10, 2) := by decide +kernel
theorem d_Mod_listen_138 : decode b_Mod_listen 138 = .ok (.aload_n 0, 1) := by decide +kernel
theorem d_Mod_listen_139 : decode b_Mod_listen 139 = .ok (.getfield 80, 3) := by decide +kernel
theorem d_Mod_listen_142 : decode b_Mod_listen 142 = .ok (.iadd, 1) := by decide +kernel
theorem d_Mod_listen_143 : decode b_Mod_listen 143 = .ok (.if_icmp .ne 7, 3) := by decide +kernel
theorem d_Mod_listen_146 : decode b_Mod_listen 146 = .ok (.aload_n 0, 1) := by decide +kernel
theorem d_Mod_listen_147 : decode b_Mod_listen 147 = .ok (.invokevirtual 83, 3) := by decide +kernel
theorem d_Mod_listen_150 : decode b_Mod_listen 150 = .ok (.return_, 1) := by decide +kernel
theorem d_Mod_endHeader_0 : decode b_Mod_endHeader 0 = .ok (.sipush 255, 3) := by decide +kernel
theorem d_Mod_endHeader_3 : decode b_Mod_endHeader 3 = .ok (.istore_n 1, 1) := by decide +kernel
theorem d_Mod_endHeader_4 : decode b_Mod_endHeader 4 = .ok (.iconst 0, 1) := by decide +kernel
theorem d_Mod_endHeader_5 : decode b_Mod_endHeader 5 = .ok (.istore_n 2, 1) := by decide +kernel
theorem d_Mod_endHeader_6 : decode b_Mod_endHeader 6 = .ok (.iload_n 2, 1) := by decide +kernel
theorem d_Mod_endHeader_7 : decode b_Mod_endHeader 7 = .ok (.iconst 5, 1) := by decide +kernel
theorem d_Mod_endHeader_8 : decode b_Mod_endHeader 8 = .ok (.if_icmp .ge 20, 3) := by decide +kernel
theorem d_Mod_endHeader_11 : decode b_Mod_endHeader 11 = .ok (.iload_n 1, 1) := by decide +kernel
theorem d_Mod_endHeader_12 : decode b_Mod_endHeader 12 = .ok (.aload_n 0, 1) := by decide +kernel
theorem d_Mod_endHeader_13 : decode b_Mod_endHeader 13 = .ok (.getfield 7, 3) := by decide +kernel
theorem d_Mod_endHeader_16 : decode b_Mod_endHeader 16 = .ok (.iload_n 2, 1) := by decide +kernel
theorem d_Mod_endHeader_17 : decode b_Mod_endHeader 17 = .ok (.iaload, 1) := by decide +kernel
theorem d_Mod_endHeader_18 : decode b_Mod_endHeader 18 = .ok (.invokestatic 56, 3) := by decide +kernel
theorem d_Mod_endHeader_21 : decode b_Mod_endHeader 21 = .ok (.istore_n 1, 1) := by decide +kernel
theorem d_Mod_endHeader_22 : decode b_Mod_endHeader 22 = .ok (.iinc 2 1, 3) := by decide +kernel
theorem d_Mod_endHeader_25 : decode b_Mod_endHeader 25 = .ok (.goto (-19), 3) := by decide +kernel
theorem d_Mod_endHeader_28 : decode b_Mod_endHeader 28 = .ok (.aload_n 0, 1) := by decide +kernel
theorem d_Mod_endHeader_29 : decode b_Mod_endHeader 29 = .ok (.sipush 256, 3) := by decide +kernel
theorem d_Mod_endHeader_32 : decode b_Mod_endHeader 32 = .ok (.aload_n 0, 1) := by decide +kernel
theorem d_Mod_endHeader_33 : decode b_Mod_endHeader 33 = .ok (.getfield 7, 3) := by decide +kernel
theorem d_Mod_endHeader_36 : decode b_Mod_endHeader 36 = .ok (.iconst 3, 1) := by decide +kernel
theorem d_Mod_endHeader_37 : decode b_Mod_endHeader 37 = .ok (.iaload, 1) := by decide +kernel
theorem d_Mod_endHeader_38 : decode b_Mod_endHeader 38 = .ok (.imul, 1) := by decide +kernel
theorem d_Mod_endHeader_39 : decode b_Mod_endHeader 39 = .ok (.aload_n 0, 1) := by decide +kernel
theorem d_Mod_endHeader_40 : decode b_Mod_endHeader 40 = .ok (.getfield 7, 3) := by decide +kernel
theorem d_Mod_endHeader_43 : decode b_Mod_endHeader 43 = .ok (.iconst 4, 1) := by decide +kernel
theorem d_Mod_endHeader_44 : decode b_Mod_endHeader 44 = .ok (.iaload, 1) := by decide +kernel
theorem d_Mod_endHeader_45 : decode b_Mod_endHeader 45 = .ok (.iadd, 1) := by decide +kernel
theorem d_Mod_endHeader_46 : decode b_Mod_endHeader 46 = .ok (.putfield 80, 3) := by decide +kernel
theorem d_Mod_endHeader_49 : decode b_Mod_endHeader 49 = .ok (.aload_n 0, 1) := by decide +kernel
theorem d_Mod_endHeader_50 : decode b_Mod_endHeader 50 = .ok (.aload_n 0, 1) := by decide +kernel
theorem d_Mod_endHeader_51 : decode b_Mod_endHeader 51 = .ok (.getfield 7, 3) := by decide +kernel
theorem d_Mod_endHeader_54 : decode b_Mod_endHeader 54 = .ok (.iconst 5, 1) := by decide +kernel
theorem d_Mod_endHeader_55 : decode b_Mod_endHeader 55 = .ok (.iaload, 1) := by decide +kernel
theorem d_Mod_endHeader_56 : decode b_Mod_endHeader 56 = .ok (.sipush 255, 3) := by decide +kernel
theorem d_Mod_endHeader_59 : decode b_Mod_endHeader 59 = .ok (.iload_n 1, 1) := by decide +kernel
theorem d_Mod_endHeader_60 : decode b_Mod_endHeader 60 = .ok (.isub, 1) := by decide +kernel
theorem d_Mod_endHeader_61 : decode b_Mod_endHeader 61 = .ok (.if_icmp .ne 12, 3) := by decide +kernel
theorem d_Mod_endHeader_64 : decode b_Mod_endHeader 64 = .ok (.aload_n 0, 1) := by decide +kernel
theorem d_Mod_endHeader_65 : decode b_Mod_endHeader 65 = .ok (.getfield 80, 3) := by decide +kernel
theorem d_Mod_endHeader_68 : decode b_Mod_endHeader 68 = .ok (.bipush 40, 2) := by decide +kernel
theorem d_Mod_endHeader_70 : decode b_Mod_endHeader 70 = .ok (.if_icmp .le 7, 3) := by decide +kernel
theorem d_Mod_endHeader_73 : decode b_Mod_endHeader 73 = .ok (.iconst 1, 1) := by decide +kernel
theorem d_Mod_endHeader_74 : decode b_Mod_endHeader 74 = .ok (.goto 4, 3) := by decide +kernel
theorem d_Mod_endHeader_77 : decode b_Mod_endHeader 77 = .ok (.iconst 0, 1) := by decide +kernel
theorem d_Mod_endHeader_78 : decode b_Mod_endHeader 78 = .ok (.putfield 86, 3) := by decide +kernel
theorem d_Mod_endHeader_81 : decode b_Mod_endHeader 81 = .ok (.aload_n 0, 1) := by decide +kernel
theorem d_Mod_endHeader_82 : decode b_Mod_endHeader 82 = .ok (.aload_n 0, 1) := by decide +kernel
theorem d_Mod_endHeader_83 : decode b_Mod_endHeader 83 = .ok (.getfield 86, 3) := by decide +kernel
theorem d_Mod_endHeader_86 : decode b_Mod_endHeader 86 = .ok (.ifCond .ne 21, 3) := by decide +kernel
theorem d_Mod_endHeader_89 : decode b_Mod_endHeader 89 = .ok (.aload_n 0, 1) := by decide +kernel
theorem d_Mod_endHeader_90 : decode b_Mod_endHeader 90 = .ok (.getfield 80, 3) := by decide +kernel
theorem d_Mod_endHeader_93 : decode b_Mod_endHeader 93 = .ok (.ifCond .ne 14, 3) := by decide +kernel
theorem d_Mod_endHeader_96 : decode b_Mod_endHeader 96 = .ok (.aload_n 0, 1) := by decide +kernel
theorem d_Mod_endHeader_97 : decode b_Mod_endHeader 97 = .ok (.invokevirtual 90, 3) := by decide +kernel
theorem d_Mod_endHeader_100 : decode b_Mod_endHeader 100 = .ok (.ifCond .eq 7, 3) := by decide +kernel
theorem d_Mod_endHeader_103 : decode b_Mod_endHeader 103 = .ok (.iconst 1, 1) := by decide +kernel
theorem d_Mod_endHeader_104 : decode b_Mod_endHeader 104 = .ok (.goto 4, 3) := by decide +kernel
theorem d_Mod_endHeader_107 : decode b_Mod_endHeader 107 = .ok (.iconst 0, 1) := by decide +kernel
theorem d_Mod_endHeader_108 : decode b_Mod_endHeader 108 = .ok (.putfield 94, 3) := by decide +kernel
theorem d_Mod_endHeader_111 : decode b_Mod_endHeader 111 = .ok (.aload_n 0, 1) := by decide +kernel
theorem d_Mod_endHeader_112 : decode b_Mod_endHeader 112 = .ok (.aload_n 0, 1) := by decide +kernel
theorem d_Mod_endHeader_113 : decode b_Mod_endHeader 113 = .ok (.getfield 86, 3) := by decide +kernel
theorem d_Mod_endHeader_116 : decode b_Mod_endHeader 116 = .ok (.ifCond .ne 10, 3) := by decide +kernel
theorem d_Mod_endHeader_119 : decode b_Mod_endHeader 119 = .ok (.aload_n 0, 1) := by decide +kernel
theorem d_Mod_endHeader_120 : decode b_Mod_endHeader 120 = .ok (.getfield 80, 3) := by decide +kernel
theorem d_Mod_endHeader_123 : decode b_Mod_endHeader 123 = .ok (.ifCond .ne 7, 3) := by decide +kernel
theorem d_Mod_endHeader_126 : decode b_Mod_endHeader 126 = .ok (.iconst 0, 1) := by decide +kernel
theorem d_Mod_endHeader_127 : decode b_Mod_endHeader 127 = .ok (.goto 7, 3) := by decide +kernel
theorem d_Mod_endHeader_130 : decode b_Mod_endHeader 130 = .ok (.aload_n 0, 1) := by decide +kernel
theorem d_Mod_endHeader_131 : decode b_Mod_endHeader 131 = .ok (.getfield 74, 3) := by decide +kernel
theorem d_Mod_endHeader_134 : decode b_Mod_endHeader 134 = .ok (.putfield 74, 3) := by decide +kernel
theorem d_Mod_endHeader_137 : decode b_Mod_endHeader 137 = .ok (.return_, 1) := by decide +kernel
theorem d_Mod_headerStep_0 : decode b_Mod_headerStep 0 = .ok (.iload_n 0, 1) := by decide +kernel
theorem d_Mod_headerStep_1 : decode b_Mod_headerStep 1 = .ok (.iload_n 1, 1) := by decide +kernel
theorem d_Mod_headerStep_2 : decode b_Mod_headerStep 2 = .ok (.ixor, 1) := by decide +kernel
theorem d_Mod_headerStep_3 : decode b_Mod_headerStep 3 = .ok (.istore_n 2, 1) := by decide +kernel
theorem d_Mod_headerStep_4 : decode b_Mod_headerStep 4 = .ok (.iconst 0, 1) := by decide +kernel
theorem d_Mod_headerStep_5 : decode b_Mod_headerStep 5 = .ok (.istore_n 3, 1) := by decide +kernel
theorem d_Mod_headerStep_6 : decode b_Mod_headerStep 6 = .ok (.iload_n 3, 1) := by decide +kernel
theorem d_Mod_headerStep_7 : decode b_Mod_headerStep 7 = .ok (.bipush 8, 2) := by decide +kernel
theorem d_Mod_headerStep_9 : decode b_Mod_headerStep 9 = .ok (.if_icmp .ge 30, 3) := by decide +kernel
theorem d_Mod_headerStep_12 : decode b_Mod_headerStep 12 = .ok (.iload_n 2, 1) := by decide +kernel
theorem d_Mod_headerStep_13 : decode b_Mod_headerStep 13 = .ok (.iconst 2, 1) := by decide +kernel
theorem d_Mod_headerStep_14 : decode b_Mod_headerStep 14 = .ok (.irem, 1) := by decide +kernel
theorem d_Mod_headerStep_15 : decode b_Mod_headerStep 15 = .ok (.iconst 1, 1) := by decide +kernel
theorem d_Mod_headerStep_16 : decode b_Mod_headerStep 16 = .ok (.if_icmp .ne 13, 3) := by decide +kernel
theorem d_Mod_headerStep_19 : decode b_Mod_headerStep 19 = .ok (.iload_n 2, 1) := by decide +kernel
theorem d_Mod_headerStep_20 : decode b_Mod_headerStep 20 = .ok (.iconst 2, 1) := by decide +kernel
theorem d_Mod_headerStep_21 : decode b_Mod_headerStep 21 = .ok (.idiv, 1) := by decide +kernel
theorem d_Mod_headerStep_22 : decode b_Mod_headerStep 22 = .ok (.sipush 129, 3) := by decide +kernel
theorem d_Mod_headerStep_25 : decode b_Mod_headerStep 25 = .ok (.ixor, 1) := by decide +kernel
theorem d_Mod_headerStep_26 : decode b_Mod_headerStep 26 = .ok (.goto 6, 3) := by decide +kernel
theorem d_Mod_headerStep_29 : decode b_Mod_headerStep 29 = .ok (.iload_n 2, 1) := by decide +kernel
theorem d_Mod_headerStep_30 : decode b_Mod_headerStep 30 = .ok (.iconst 2, 1) := by decide +kernel
theorem d_Mod_headerStep_31 : decode b_Mod_headerStep 31 = .ok (.idiv, 1) := by decide +kernel
theorem d_Mod_headerStep_32 : decode b_Mod_headerStep 32 = .ok (.istore_n 2, 1) := by decide +kernel
theorem d_Mod_headerStep_33 : decode b_Mod_headerStep 33 = .ok (.iinc 3 1, 3) := by decide +kernel
theorem d_Mod_headerStep_36 : decode b_Mod_headerStep 36 = .ok (.goto (-30), 3) := by decide +kernel
theorem d_Mod_headerStep_39 : decode b_Mod_headerStep 39 = .ok (.iload_n 2, 1) := by decide +kernel
theorem d_Mod_headerStep_40 : decode b_Mod_headerStep 40 = .ok (.ireturn, 1) := by decide +kernel
theorem d_Mod_isForMe_0 : decode b_Mod_isForMe 0 = .ok (.aload_n 0, 1) := by decide +kernel
theorem d_Mod_isForMe_1 : decode b_Mod_isForMe 1 = .ok (.getfield 7, 3) := by decide +kernel
theorem d_Mod_isForMe_4 : decode b_Mod_isForMe 4 = .ok (.iconst 1, 1) := by decide +kernel
theorem d_Mod_isForMe_5 : decode b_Mod_isForMe 5 = .ok (.iaload, 1) := by decide +kernel
theorem d_Mod_isForMe_6 : decode b_Mod_isForMe 6 = .ok (.aload_n 0, 1) := by decide +kernel
theorem d_Mod_isForMe_7 : decode b_Mod_isForMe 7 = .ok (.getfield 39, 3) := by decide +kernel
theorem d_Mod_isForMe_10 : decode b_Mod_isForMe 10 = .ok (.if_icmp .eq 15, 3) := by decide +kernel
theorem d_Mod_isForMe_13 : decode b_Mod_isForMe 13 = .ok (.aload_n 0, 1) := by decide +kernel
theorem d_Mod_isForMe_14 : decode b_Mod_isForMe 14 = .ok (.getfield 7, 3) := by decide +kernel
theorem d_Mod_isForMe_17 : decode b_Mod_isForMe 17 = .ok (.iconst 1, 1) := by decide +kernel
theorem d_Mod_isForMe_18 : decode b_Mod_isForMe 18 = .ok (.iaload, 1) := by decide +kernel
theorem d_Mod_isForMe_19 : decode b_Mod_isForMe 19 = .ok (.sipush 255, 3) := by decide +kernel
theorem d_Mod_isForMe_22 : decode b_Mod_isForMe 22 = .ok (.if_icmp .ne 7, 3) := by decide +kernel
theorem d_Mod_isForMe_25 : decode b_Mod_isForMe 25 = .ok (.iconst 1, 1) := by decide +kernel
theorem d_Mod_isForMe_26 : decode b_Mod_isForMe 26 = .ok (.goto 4, 3) := by decide +kernel
theorem d_Mod_isForMe_29 : decode b_Mod_isForMe 29 = .ok (.iconst 0, 1) := by decide +kernel
theorem d_Mod_isForMe_30 : decode b_Mod_isForMe 30 = .ok (.ireturn, 1) := by decide +kernel
theorem d_Mod_endData_0 : decode b_Mod_endData 0 = .ok (.ldc 60, 2) := by decide +kernel
theorem d_Mod_endData_2 : decode b_Mod_endData 2 = .ok (.istore_n 1, 1) := by decide +kernel
theorem d_Mod_endData_3 : decode b_Mod_endData 3 = .ok (.iconst 0, 1) := by decide +kernel
theorem d_Mod_endData_4 : decode b_Mod_endData 4 = .ok (.istore_n 2, 1) := by decide +kernel
theorem d_Mod_endData_5 : decode b_Mod_endData 5 = .ok (.iload_n 2, 1) := by decide +kernel
theorem d_Mod_endData_6 : decode b_Mod_endData 6 = .ok (.aload_n 0, 1) := by decide +kernel
theorem d_Mod_endData_7 : decode b_Mod_endData 7 = .ok (.getfield 80, 3) := by decide +kernel
theorem d_Mod_endData_10 : decode b_Mod_endData 10 = .ok (.if_icmp .ge 20, 3) := by decide +kernel
theorem d_Mod_endData_13 : decode b_Mod_endData 13 = .ok (.iload_n 1, 1) := by decide +kernel
theorem d_Mod_endData_14 : decode b_Mod_endData 14 = .ok (.aload_n 0, 1) := by decide +kernel
theorem d_Mod_endData_15 : decode b_Mod_endData 15 = .ok (.getfield 13, 3) := by decide +kernel
theorem d_Mod_endData_18 : decode b_Mod_endData 18 = .ok (.iload_n 2, 1) := by decide +kernel
theorem d_Mod_endData_19 : decode b_Mod_endData 19 = .ok (.iaload, 1) := by decide +kernel
theorem d_Mod_endData_20 : decode b_Mod_endData 20 = .ok (.invokestatic 61, 3) := by decide +kernel
theorem d_Mod_endData_23 : decode b_Mod_endData 23 = .ok (.istore_n 1, 1) := by decide +kernel
theorem d_Mod_endData_24 : decode b_Mod_endData 24 = .ok (.iinc 2 1, 3) := by decide +kernel
theorem d_Mod_endData_27 : decode b_Mod_endData 27 = .ok (.goto (-22), 3) := by decide +kernel
theorem d_Mod_endData_30 : decode b_Mod_endData 30 = .ok (.aload_n 0, 1) := by decide +kernel
theorem d_Mod_endData_31 : decode b_Mod_endData 31 = .ok (.aload_n 0, 1) := by decide +kernel
theorem d_Mod_endData_32 : decode b_Mod_endData 32 = .ok (.getfield 13, 3) := by decide +kernel
theorem d_Mod_endData_35 : decode b_Mod_endData 35 = .ok (.aload_n 0, 1) := by decide +kernel
theorem d_Mod_endData_36 : decode b_Mod_endData 36 = .ok (.getfield 80, 3) := by decide +kernel
theorem d_Mod_endData_39 : decode b_Mod_endData 39 = .ok (.iaload, 1) := by decide +kernel
theorem d_Mod_endData_40 : decode b_Mod_endData 40 = .ok (.ldc 60, 2) := by decide +kernel
theorem d_Mod_endData_42 : decode b_Mod_endData 42 = .ok (.iload_n 1, 1) := by decide +kernel
theorem d_Mod_endData_43 : decode b_Mod_endData 43 = .ok (.isub, 1) := by decide +kernel
theorem d_Mod_endData_44 : decode b_Mod_endData 44 = .ok (.sipush 256, 3) := by decide +kernel
theorem d_Mod_endData_47 : decode b_Mod_endData 47 = .ok (.irem, 1) := by decide +kernel
theorem d_Mod_endData_48 : decode b_Mod_endData 48 = .ok (.if_icmp .ne 25, 3) := by decide +kernel
theorem d_Mod_endData_51 : decode b_Mod_endData 51 = .ok (.aload_n 0, 1) := by decide +kernel
theorem d_Mod_endData_52 : decode b_Mod_endData 52 = .ok (.getfield 13, 3) := by decide +kernel
theorem d_Mod_endData_55 : decode b_Mod_endData 55 = .ok (.aload_n 0, 1) := by decide +kernel
theorem d_Mod_endData_56 : decode b_Mod_endData 56 = .ok (.getfield 80, 3) := by decide +kernel
theorem d_Mod_endData_59 : decode b_Mod_endData 59 = .ok (.iconst 1, 1) := by decide +kernel
theorem d_Mod_endData_60 : decode b_Mod_endData 60 = .ok (.iadd, 1) := by decide +kernel
theorem d_Mod_endData_61 : decode b_Mod_endData 61 = .ok (.iaload, 1) := by decide +kernel
theorem d_Mod_endData_62 : decode b_Mod_endData 62 = .ok (.ldc 60, 2) := by decide +kernel
theorem d_Mod_endData_64 : decode b_Mod_endData 64 = .ok (.iload_n 1, 1) := by decide +kernel
theorem d_Mod_endData_65 : decode b_Mod_endData 65 = .ok (.isub, 1) := by decide +kernel
theorem d_Mod_endData_66 : decode b_Mod_endData 66 = .ok (.sipush 256, 3) := by decide +kernel
theorem d_Mod_endData_69 : decode b_Mod_endData 69 = .ok (.idiv, 1) := by decide +kernel
theorem d_Mod_endData_70 : decode b_Mod_endData 70 = .ok (.if_icmp .eq 7, 3) := by decide +kernel
theorem d_Mod_endData_73 : decode b_Mod_endData 73 = .ok (.iconst 1, 1) := by decide +kernel
theorem d_Mod_endData_74 : decode b_Mod_endData 74 = .ok (.goto 4, 3) := by decide +kernel
theorem d_Mod_endData_77 : decode b_Mod_endData 77 = .ok (.iconst 0, 1) := by decide +kernel
theorem d_Mod_endData_78 : decode b_Mod_endData 78 = .ok (.putfield 86, 3) := by decide +kernel
theorem d_Mod_endData_81 : decode b_Mod_endData 81 = .ok (.aload_n 0, 1) := by decide +kernel
theorem d_Mod_endData_82 : decode b_Mod_endData 82 = .ok (.aload_n 0, 1) := by decide +kernel
theorem d_Mod_endData_83 : decode b_Mod_endData 83 = .ok (.getfield 86, 3) := by decide +kernel
theorem d_Mod_endData_86 : decode b_Mod_endData 86 = .ok (.ifCond .ne 14, 3) := by decide +kernel
theorem d_Mod_endData_89 : decode b_Mod_endData 89 = .ok (.aload_n 0, 1) := by decide +kernel
theorem d_Mod_endData_90 : decode b_Mod_endData 90 = .ok (.invokevirtual 90, 3) := by decide +kernel
theorem d_Mod_endData_93 : decode b_Mod_endData 93 = .ok (.ifCond .eq 7, 3) := by decide +kernel
theorem d_Mod_endData_96 : decode b_Mod_endData 96 = .ok (.iconst 1, 1) := by decide +kernel
theorem d_Mod_endData_97 : decode b_Mod_endData 97 = .ok (.goto 4, 3) := by decide +kernel
theorem d_Mod_endData_100 : decode b_Mod_endData 100 = .ok (.iconst 0, 1) := by decide +kernel
theorem d_Mod_endData_101 : decode b_Mod_endData 101 = .ok (.putfield 94, 3) := by decide +kernel
theorem d_Mod_endData_104 : decode b_Mod_endData 104 = .ok (.aload_n 0, 1) := by decide +kernel
theorem d_Mod_endData_105 : decode b_Mod_endData 105 = .ok (.iconst 0, 1) := by decide +kernel
theorem d_Mod_endData_106 : decode b_Mod_endData 106 = .ok (.putfield 74, 3) := by decide +kernel
theorem d_Mod_endData_109 : decode b_Mod_endData 109 = .ok (.return_, 1) := by decide +kernel
theorem d_Mod_dataStep_0 : decode b_Mod_dataStep 0 = .ok (.iload_n 0, 1) := by decide +kernel
theorem d_Mod_dataStep_1 : decode b_Mod_dataStep 1 = .ok (.iload_n 1, 1) := by decide +kernel
theorem d_Mod_dataStep_2 : decode b_Mod_dataStep 2 = .ok (.ixor, 1) := by decide +kernel
theorem d_Mod_dataStep_3 : decode b_Mod_dataStep 3 = .ok (.istore_n 2, 1) := by decide +kernel
theorem d_Mod_dataStep_4 : decode b_Mod_dataStep 4 = .ok (.iconst 0, 1) := by decide +kernel
theorem d_Mod_dataStep_5 : decode b_Mod_dataStep 5 = .ok (.istore_n 3, 1) := by decide +kernel
theorem d_Mod_dataStep_6 : decode b_Mod_dataStep 6 = .ok (.iload_n 3, 1) := by decide +kernel
theorem d_Mod_dataStep_7 : decode b_Mod_dataStep 7 = .ok (.bipush 8, 2) := by decide +kernel
theorem d_Mod_dataStep_9 : decode b_Mod_dataStep 9 = .ok (.if_icmp .ge 29, 3) := by decide +kernel
theorem d_Mod_dataStep_12 : decode b_Mod_dataStep 12 = .ok (.iload_n 2, 1) := by decide +kernel
theorem d_Mod_dataStep_13 : decode b_Mod_dataStep 13 = .ok (.iconst 2, 1) := by decide +kernel
theorem d_Mod_dataStep_14 : decode b_Mod_dataStep 14 = .ok (.irem, 1) := by decide +kernel
theorem d_Mod_dataStep_15 : decode b_Mod_dataStep 15 = .ok (.iconst 1, 1) := by decide +kernel
theorem d_Mod_dataStep_16 : decode b_Mod_dataStep 16 = .ok (.if_icmp .ne 12, 3) := by decide +kernel
theorem d_Mod_dataStep_19 : decode b_Mod_dataStep 19 = .ok (.iload_n 2, 1) := by decide +kernel
theorem d_Mod_dataStep_20 : decode b_Mod_dataStep 20 = .ok (.iconst 2, 1) := by decide +kernel
theorem d_Mod_dataStep_21 : decode b_Mod_dataStep 21 = .ok (.idiv, 1) := by decide +kernel
theorem d_Mod_dataStep_22 : decode b_Mod_dataStep 22 = .ok (.ldc 48, 2) := by decide +kernel
theorem d_Mod_dataStep_24 : decode b_Mod_dataStep 24 = .ok (.ixor, 1) := by decide +kernel
theorem d_Mod_dataStep_25 : decode b_Mod_dataStep 25 = .ok (.goto 6, 3) := by decide +kernel
theorem d_Mod_dataStep_28 : decode b_Mod_dataStep 28 = .ok (.iload_n 2, 1) := by decide +kernel
theorem d_Mod_dataStep_29 : decode b_Mod_dataStep 29 = .ok (.iconst 2, 1) := by decide +kernel
theorem d_Mod_dataStep_30 : decode b_Mod_dataStep 30 = .ok (.idiv, 1) := by decide +kernel
theorem d_Mod_dataStep_31 : decode b_Mod_dataStep 31 = .ok (.istore_n 2, 1) := by decide +kernel
theorem d_Mod_dataStep_32 : decode b_Mod_dataStep 32 = .ok (.iinc 3 1, 3) := by decide +kernel
theorem d_Mod_dataStep_35 : decode b_Mod_dataStep 35 = .ok (.goto (-29), 3) := by decide +kernel
theorem d_Mod_dataStep_38 : decode b_Mod_dataStep 38 = .ok (.iload_n 2, 1) := by decide +kernel
theorem d_Mod_dataStep_39 : decode b_Mod_dataStep 39 = .ok (.ireturn, 1) := by decide +kernel
theorem d_Mod_settle_0 : decode b_Mod_settle 0 = .ok (.iconst 1, 1) := by decide +kernel
theorem d_Mod_settle_1 : decode b_Mod_settle 1 = .ok (.istore_n 1, 1) := by decide +kernel
theorem d_Mod_settle_2 : decode b_Mod_settle 2 = .ok (.iload_n 1, 1) := by decide +kernel
theorem d_Mod_settle_3 : decode b_Mod_settle 3 = .ok (.ifCond .eq 21, 3) := by decide +kernel
theorem d_Mod_settle_6 : decode b_Mod_settle 6 = .ok (.aload_n 0, 1) := by decide +kernel
theorem d_Mod_settle_7 : decode b_Mod_settle 7 = .ok (.invokevirtual 97, 3) := by decide +kernel
theorem d_Mod_settle_10 : decode b_Mod_settle 10 = .ok (.istore_n 1, 1) := by decide +kernel
theorem d_Mod_settle_11 : decode b_Mod_settle 11 = .ok (.aload_n 0, 1) := by decide +kernel
theorem d_Mod_settle_12 : decode b_Mod_settle 12 = .ok (.iconst 0, 1) := by decide +kernel
theorem d_Mod_settle_13 : decode b_Mod_settle 13 = .ok (.putfield 94, 3) := by decide +kernel
theorem d_Mod_settle_16 : decode b_Mod_settle 16 = .ok (.aload_n 0, 1) := by decide +kernel
theorem d_Mod_settle_17 : decode b_Mod_settle 17 = .ok (.iconst 0, 1) := by decide +kernel
theorem d_Mod_settle_18 : decode b_Mod_settle 18 = .ok (.putfield 86, 3) := by decide +kernel
theorem d_Mod_settle_21 : decode b_Mod_settle 21 = .ok (.goto (-19), 3) := by decide +kernel
theorem d_Mod_settle_24 : decode b_Mod_settle 24 = .ok (.return_, 1) := by decide +kernel
theorem d_Mod_step_0 : decode b_Mod_step 0 = .ok (.aload_n 0, 1) := by decide +kernel
theorem d_Mod_step_1 : decode b_Mod_step 1 = .ok (.getfield 100, 3) := by decide +kernel
theorem d_Mod_step_4 : decode b_Mod_step 4 = .ok (.tableswitch 70 0 5 #[40, 45, 50, 55, 60, 65], 40) := by decide +kernel
theorem d_Mod_step_44 : decode b_Mod_step 44 = .ok (.aload_n 0, 1) := by decide +kernel
theorem d_Mod_step_45 : decode b_Mod_step 45 = .ok (.invokevirtual 103, 3) := by decide +kernel
theorem d_Mod_step_48 : decode b_Mod_step 48 = .ok (.ireturn, 1) := by decide +kernel
theorem d_Mod_step_49 : decode b_Mod_step 49 = .ok (.aload_n 0, 1) := by decide +kernel
theorem d_Mod_step_50 : decode b_Mod_step 50 = .ok (.invokevirtual 106, 3) := by decide +kernel
theorem d_Mod_step_53 : decode b_Mod_step 53 = .ok (.ireturn, 1) := by decide +kernel
theorem d_Mod_step_54 : decode b_Mod_step 54 = .ok (.aload_n 0, 1) := by decide +kernel
theorem d_Mod_step_55 : decode b_Mod_step 55 = .ok (.invokevirtual 109, 3) := by decide +kernel
theorem d_Mod_step_58 : decode b_Mod_step 58 = .ok (.ireturn, 1) := by decide +kernel
theorem d_Mod_step_59 : decode b_Mod_step 59 = .ok (.aload_n 0, 1) := by decide +kernel
theorem d_Mod_step_60 : decode b_Mod_step 60 = .ok (.invokevirtual 112, 3) := by decide +kernel
theorem d_Mod_step_63 : decode b_Mod_step 63 = .ok (.ireturn, 1) := by decide +kernel
theorem d_Mod_step_64 : decode b_Mod_step 64 = .ok (.aload_n 0, 1) := by decide +kernel
theorem d_Mod_step_65 : decode b_Mod_step 65 = .ok (.invokevirtual 115, 3) := by decide +kernel
theorem d_Mod_step_68 : decode b_Mod_step 68 = .ok (.ireturn, 1) := by decide +kernel
theorem d_Mod_step_69 : decode b_Mod_step 69 = .ok (.aload_n 0, 1) := by decide +kernel
theorem d_Mod_step_70 : decode b_Mod_step 70 = .ok (.invokevirtual 118, 3) := by decide +kernel
theorem d_Mod_step_73 : decode b_Mod_step 73 = .ok (.ireturn, 1) := by decide +kernel
theorem d_Mod_step_74 : decode b_Mod_step 74 = .ok (.aload_n 0, 1) := by decide +kernel
theorem d_Mod_step_75 : decode b_Mod_step 75 = .ok (.invokevirtual 121, 3) := by decide +kernel
theorem d_Mod_step_78 : decode b_Mod_step 78 = .ok (.ireturn, 1) := by decide +kernel
theorem d_Mod_idle_0 : decode b_Mod_idle 0 = .ok (.aload_n 0, 1) := by decide +kernel
theorem d_Mod_idle_1 : decode b_Mod_idle 1 = .ok (.getfield 94, 3) := by decide +kernel
theorem d_Mod_idle_4 : decode b_Mod_idle 4 = .ok (.ifCond .eq 150, 3) := by decide +kernel
theorem d_Mod_idle_7 : decode b_Mod_idle 7 = .ok (.aload_n 0, 1) := by decide +kernel
theorem d_Mod_idle_8 : decode b_Mod_idle 8 = .ok (.getfield 7, 3) := by decide +kernel
theorem d_Mod_idle_11 : decode b_Mod_idle 11 = .ok (.iconst 1, 1) := by decide +kernel
theorem d_Mod_idle_12 : decode b_Mod_idle 12 = .ok (.iaload, 1) := by decide +kernel
theorem d_Mod_idle_13 : decode b_Mod_idle 13 = .ok (.aload_n 0, 1) := by decide +kernel
theorem d_Mod_idle_14 : decode b_Mod_idle 14 = .ok (.getfield 39, 3) := by decide +kernel
theorem d_Mod_idle_17 : decode b_Mod_idle 17 = .ok (.if_icmp .ne 137, 3) := by decide +kernel
theorem d_Mod_idle_20 : decode b_Mod_idle 20 = .ok (.aload_n 0, 1) := by decide +kernel
theorem d_Mod_idle_21 : decode b_Mod_idle 21 = .ok (.getfield 7, 3) := by decide +kernel
theorem d_Mod_idle_24 : decode b_Mod_idle 24 = .ok (.iconst 2, 1) := by decide +kernel
theorem d_Mod_idle_25 : decode b_Mod_idle 25 = .ok (.iaload, 1) := by decide +kernel
theorem d_Mod_idle_26 : decode b_Mod_idle 26 = .ok (.istore_n 1, 1) := by decide +kernel
theorem d_Mod_idle_27 : decode b_Mod_idle 27 = .ok (.aload_n 0, 1) := by decide +kernel
theorem d_Mod_idle_28 : decode b_Mod_idle 28 = .ok (.getfield 7, 3) := by decide +kernel
theorem d_Mod_idle_31 : decode b_Mod_idle 31 = .ok (.iconst 0, 1) := by decide +kernel
theorem d_Mod_idle_32 : decode b_Mod_idle 32 = .ok (.iaload, 1) := by decide +kernel
theorem d_Mod_idle_33 : decode b_Mod_idle 33 = .ok (.ifCond .ne 16, 3) := by decide +kernel
theorem d_Mod_idle_36 : decode b_Mod_idle 36 = .ok (.aload_n 0, 1) := by decide +kernel
theorem d_Mod_idle_37 : decode b_Mod_idle 37 = .ok (.iconst 0, 1) := by decide +kernel
theorem d_Mod_idle_38 : decode b_Mod_idle 38 = .ok (.putfield 124, 3) := by decide +kernel
theorem d_Mod_idle_41 : decode b_Mod_idle 41 = .ok (.aload_n 0, 1) := by decide +kernel
theorem d_Mod_idle_42 : decode b_Mod_idle 42 = .ok (.iconst 1, 1) := by decide +kernel
theorem d_Mod_idle_43 : decode b_Mod_idle 43 = .ok (.putfield 100, 3) := by decide +kernel
theorem d_Mod_idle_46 : decode b_Mod_idle 46 = .ok (.goto 106, 3) := by decide +kernel
theorem d_Mod_idle_49 : decode b_Mod_idle 49 = .ok (.aload_n 0, 1) := by decide +kernel
theorem d_Mod_idle_50 : decode b_Mod_idle 50 = .ok (.getfield 7, 3) := by decide +kernel
theorem d_Mod_idle_53 : decode b_Mod_idle 53 = .ok (.iconst 0, 1) := by decide +kernel
theorem d_Mod_idle_54 : decode b_Mod_idle 54 = .ok (.iaload, 1) := by decide +kernel
theorem d_Mod_idle_55 : decode b_Mod_idle 55 = .ok (.iconst 1, 1) := by decide +kernel
theorem d_Mod_idle_56 : decode b_Mod_idle 56 = .ok (.if_icmp .ne 13, 3) := by decide +kernel
theorem d_Mod_idle_59 : decode b_Mod_idle 59 = .ok (.aload_n 0, 1) := by decide +kernel
theorem d_Mod_idle_60 : decode b_Mod_idle 60 = .ok (.iconst 2, 1) := by decide +kernel
theorem d_Mod_idle_61 : decode b_Mod_idle 61 = .ok (.iload_n 1, 1) := by decide +kernel
theorem d_Mod_idle_62 : decode b_Mod_idle 62 = .ok (.iconst 0, 1) := by decide +kernel
theorem d_Mod_idle_63 : decode b_Mod_idle 63 = .ok (.invokevirtual 67, 3) := by decide +kernel
theorem d_Mod_idle_66 : decode b_Mod_idle 66 = .ok (.goto 86, 3) := by decide +kernel
theorem d_Mod_idle_69 : decode b_Mod_idle 69 = .ok (.aload_n 0, 1) := by decide +kernel
theorem d_Mod_idle_70 : decode b_Mod_idle 70 = .ok (.getfield 7, 3) := by decide +kernel
theorem d_Mod_idle_73 : decode b_Mod_idle 73 = .ok (.iconst 0, 1) := by decide +kernel
theorem d_Mod_idle_74 : decode b_Mod_idle 74 = .ok (.iaload, 1) := by decide +kernel
theorem d_Mod_idle_75 : decode b_Mod_idle 75 = .ok (.iconst 3, 1) := by decide +kernel
theorem d_Mod_idle_76 : decode b_Mod_idle 76 = .ok (.if_icmp .ne 44, 3) := by decide +kernel
theorem d_Mod_idle_79 : decode b_Mod_idle 79 = .ok (.iconst 0, 1) := by decide +kernel
theorem d_Mod_idle_80 : decode b_Mod_idle 80 = .ok (.istore_n 2, 1) := by decide +kernel
theorem d_Mod_idle_81 : decode b_Mod_idle 81 = .ok (.iload_n 2, 1) := by decide +kernel
theorem d_Mod_idle_82 : decode b_Mod_idle 82 = .ok (.aload_n 0, 1) := by decide +kernel
theorem d_Mod_idle_83 : decode b_Mod_idle 83 = .ok (.getfield 80, 3) := by decide +kernel
theorem d_Mod_idle_86 : decode b_Mod_idle 86 = .ok (.if_icmp .ge 21, 3) := by decide +kernel
theorem d_Mod_idle_89 : decode b_Mod_idle 89 = .ok (.aload_n 0, 1) := by decide +kernel
theorem d_Mod_idle_90 : decode b_Mod_idle 90 = .ok (.getfield 19, 3) := by decide +kernel
theorem d_Mod_idle_93 : decode b_Mod_idle 93 = .ok (.iload_n 2, 1) := by decide +kernel
theorem d_Mod_idle_94 : decode b_Mod_idle 94 = .ok (.aload_n 0, 1) := by decide +kernel
theorem d_Mod_idle_95 : decode b_Mod_idle 95 = .ok (.getfield 13, 3) := by decide +kernel
theorem d_Mod_idle_98 : decode b_Mod_idle 98 = .ok (.iload_n 2, 1) := by decide +kernel
theorem d_Mod_idle_99 : decode b_Mod_idle 99 = .ok (.iaload, 1) := by decide +kernel
theorem d_Mod_idle_100 : decode b_Mod_idle 100 = .ok (.iastore, 1) := by decide +kernel
theorem d_Mod_idle_101 : decode b_Mod_idle 101 = .ok (.iinc 2 1, 3) := by decide +kernel
theorem d_Mod_idle_104 : decode b_Mod_idle 104 = .ok (.goto (-23), 3) := by decide +kernel
theorem d_Mod_idle_107 : decode b_Mod_idle 107 = .ok (.aload_n 0, 1) := by decide +kernel
theorem d_Mod_idle_108 : decode b_Mod_idle 108 = .ok (.iconst 4, 1) := by decide +kernel
theorem d_Mod_idle_109 : decode b_Mod_idle 109 = .ok (.iload_n 1, 1) := by decide +kernel
theorem d_Mod_idle_110 : decode b_Mod_idle 110 = .ok (.aload_n 0, 1) := by decide +kernel
theorem d_Mod_idle_111 : decode b_Mod_idle 111 = .ok (.getfield 80, 3) := by decide +kernel
theorem d_Mod_idle_114 : decode b_Mod_idle 114 = .ok (.invokevirtual 67, 3) := by decide +kernel
theorem d_Mod_idle_117 : decode b_Mod_idle 117 = .ok (.goto 35, 3) := by decide +kernel
theorem d_Mod_idle_120 : decode b_Mod_idle 120 = .ok (.aload_n 0, 1) := by decide +kernel
theorem d_Mod_idle_121 : decode b_Mod_idle 121 = .ok (.getfield 7, 3) := by decide +kernel
theorem d_Mod_idle_124 : decode b_Mod_idle 124 = .ok (.iconst 0, 1) := by decide +kernel
theorem d_Mod_idle_125 : decode b_Mod_idle 125 = .ok (.iaload, 1) := by decide +kernel
theorem d_Mod_idle_126 : decode b_Mod_idle 126 = .ok (.iconst 5, 1) := by decide +kernel
theorem d_Mod_idle_127 : decode b_Mod_idle 127 = .ok (.if_icmp .ne 25, 3) := by decide +kernel
theorem d_Mod_idle_130 : decode b_Mod_idle 130 = .ok (.aload_n 0, 1) := by decide +kernel
theorem d_Mod_idle_131 : decode b_Mod_idle 131 = .ok (.invokevirtual 127, 3) := by decide +kernel
theorem d_Mod_idle_134 : decode b_Mod_idle 134 = .ok (.aload_n 0, 1) := by decide +kernel
theorem d_Mod_idle_135 : decode b_Mod_idle 135 = .ok (.getfield 130, 3) := by decide +kernel
theorem d_Mod_idle_138 : decode b_Mod_idle 138 = .ok (.ifCond .le 14, 3) := by decide +kernel
theorem d_Mod_idle_141 : decode b_Mod_idle 141 = .ok (.aload_n 0, 1) := by decide +kernel
theorem d_Mod_idle_142 : decode b_Mod_idle 142 = .ok (.bipush 6, 2) := by decide +kernel
theorem d_Mod_idle_144 : decode b_Mod_idle 144 = .ok (.iload_n 1, 1) := by decide +kernel
theorem d_Mod_idle_145 : decode b_Mod_idle 145 = .ok (.aload_n 0, 1) := by decide +kernel
theorem d_Mod_idle_146 : decode b_Mod_idle 146 = .ok (.getfield 130, 3) := by decide +kernel
theorem d_Mod_idle_149 : decode b_Mod_idle 149 = .ok (.invokevirtual 67, 3) := by decide +kernel
theorem d_Mod_idle_152 : decode b_Mod_idle 152 = .ok (.iconst 1, 1) := by decide +kernel
theorem d_Mod_idle_153 : decode b_Mod_idle 153 = .ok (.ireturn, 1) := by decide +kernel
theorem d_Mod_idle_154 : decode b_Mod_idle 154 = .ok (.aload_n 0, 1) := by decide +kernel
theorem d_Mod_idle_155 : decode b_Mod_idle 155 = .ok (.getfield 64, 3) := by decide +kernel
theorem d_Mod_idle_158 : decode b_Mod_idle 158 = .ok (.sipush 500, 3) := by decide +kernel
theorem d_Mod_idle_161 : decode b_Mod_idle 161 = .ok (.if_icmp .ge 5, 3) := by decide +kernel
theorem d_Mod_idle_164 : decode b_Mod_idle 164 = .ok (.iconst 0, 1) := by decide +kernel
theorem d_Mod_idle_165 : decode b_Mod_idle 165 = .ok (.ireturn, 1) := by decide +kernel
theorem d_Mod_idle_166 : decode b_Mod_idle 166 = .ok (.aload_n 0, 1) := by decide +kernel
theorem d_Mod_idle_167 : decode b_Mod_idle 167 = .ok (.iconst 0, 1) := by decide +kernel
theorem d_Mod_idle_168 : decode b_Mod_idle 168 = .ok (.putfield 71, 3) := by decide +kernel
theorem d_Mod_idle_171 : decode b_Mod_idle 171 = .ok (.aload_n 0, 1) := by decide +kernel
theorem d_Mod_idle_172 : decode b_Mod_idle 172 = .ok (.iconst 5, 1) := by decide +kernel
theorem d_Mod_idle_173 : decode b_Mod_idle 173 = .ok (.putfield 100, 3) := by decide +kernel
theorem d_Mod_idle_176 : decode b_Mod_idle 176 = .ok (.iconst 1, 1) := by decide +kernel
theorem d_Mod_idle_177 : decode b_Mod_idle 177 = .ok (.ireturn, 1) := by decide +kernel
theorem d_Mod_send_0 : decode b_Mod_send 0 = .ok (.aload_n 0, 1) := by decide +kernel
theorem d_Mod_send_1 : decode b_Mod_send 1 = .ok (.bipush 85, 2) := by decide +kernel
theorem d_Mod_send_3 : decode b_Mod_send 3 = .ok (.invokevirtual 52, 3) := by decide +kernel
theorem d_Mod_send_6 : decode b_Mod_send 6 = .ok (.aload_n 0, 1) := by decide +kernel
theorem d_Mod_send_7 : decode b_Mod_send 7 = .ok (.sipush 255, 3) := by decide +kernel
theorem d_Mod_send_10 : decode b_Mod_send 10 = .ok (.invokevirtual 52, 3) := by decide +kernel
theorem d_Mod_send_13 : decode b_Mod_send 13 = .ok (.aload_n 0, 1) := by decide +kernel
theorem d_Mod_send_14 : decode b_Mod_send 14 = .ok (.iload_n 1, 1) := by decide +kernel
theorem d_Mod_send_15 : decode b_Mod_send 15 = .ok (.invokevirtual 52, 3) := by decide +kernel
theorem d_Mod_send_18 : decode b_Mod_send 18 = .ok (.aload_n 0, 1) := by decide +kernel
theorem d_Mod_send_19 : decode b_Mod_send 19 = .ok (.iload_n 2, 1) := by decide +kernel
theorem d_Mod_send_20 : decode b_Mod_send 20 = .ok (.invokevirtual 52, 3) := by decide +kernel
theorem d_Mod_send_23 : decode b_Mod_send 23 = .ok (.aload_n 0, 1) := by decide +kernel
theorem d_Mod_send_24 : decode b_Mod_send 24 = .ok (.aload_n 0, 1) := by decide +kernel
theorem d_Mod_send_25 : decode b_Mod_send 25 = .ok (.getfield 39, 3) := by decide +kernel
theorem d_Mod_send_28 : decode b_Mod_send 28 = .ok (.invokevirtual 52, 3) := by decide +kernel
theorem d_Mod_send_31 : decode b_Mod_send 31 = .ok (.aload_n 0, 1) := by decide +kernel
theorem d_Mod_send_32 : decode b_Mod_send 32 = .ok (.iconst 0, 1) := by decide +kernel
theorem d_Mod_send_33 : decode b_Mod_send 33 = .ok (.invokevirtual 52, 3) := by decide +kernel
theorem d_Mod_send_36 : decode b_Mod_send 36 = .ok (.aload_n 0, 1) := by decide +kernel
theorem d_Mod_send_37 : decode b_Mod_send 37 = .ok (.iload_n 3, 1) := by decide +kernel
theorem d_Mod_send_38 : decode b_Mod_send 38 = .ok (.invokevirtual 52, 3) := by decide +kernel
theorem d_Mod_send_41 : decode b_Mod_send 41 = .ok (.sipush 255, 3) := by decide +kernel
theorem d_Mod_send_44 : decode b_Mod_send 44 = .ok (.istore 4, 2) := by decide +kernel
theorem d_Mod_send_46 : decode b_Mod_send 46 = .ok (.aload_n 0, 1) := by decide +kernel
theorem d_Mod_send_47 : decode b_Mod_send 47 = .ok (.getfield 49, 3) := by decide +kernel
theorem d_Mod_send_50 : decode b_Mod_send 50 = .ok (.iconst 5, 1) := by decide +kernel
theorem d_Mod_send_51 : decode b_Mod_send 51 = .ok (.isub, 1) := by decide +kernel
theorem d_Mod_send_52 : decode b_Mod_send 52 = .ok (.istore 5, 2) := by decide +kernel
theorem d_Mod_send_54 : decode b_Mod_send 54 = .ok (.iload 5, 2) := by decide +kernel
theorem d_Mod_send_56 : decode b_Mod_send 56 = .ok (.aload_n 0, 1) := by decide +kernel
theorem d_Mod_send_57 : decode b_Mod_send 57 = .ok (.getfield 49, 3) := by decide +kernel
theorem d_Mod_send_60 : decode b_Mod_send 60 = .ok (.if_icmp .ge 23, 3) := by decide +kernel
theorem d_Mod_send_63 : decode b_Mod_send 63 = .ok (.iload 4, 2) := by decide +kernel
theorem d_Mod_send_65 : decode b_Mod_send 65 = .ok (.aload_n 0, 1) := by decide +kernel
theorem d_Mod_send_66 : decode b_Mod_send 66 = .ok (.getfield 16, 3) := by decide +kernel
theorem d_Mod_send_69 : decode b_Mod_send 69 = .ok (.iload 5, 2) := by decide +kernel
theorem d_Mod_send_71 : decode b_Mod_send 71 = .ok (.iaload, 1) := by decide +kernel
theorem d_Mod_send_72 : decode b_Mod_send 72 = .ok (.invokestatic 56, 3) := by decide +kernel
theorem d_Mod_send_75 : decode b_Mod_send 75 = .ok (.istore 4, 2) := by decide +kernel
theorem d_Mod_send_77 : decode b_Mod_send 77 = .ok (.iinc 5 1, 3) := by decide +kernel
theorem d_Mod_send_80 : decode b_Mod_send 80 = .ok (.goto (-26), 3) := by decide +kernel
theorem d_Mod_send_83 : decode b_Mod_send 83 = .ok (.aload_n 0, 1) := by decide +kernel
theorem d_Mod_send_84 : decode b_Mod_send 84 = .ok (.sipush 255, 3) := by decide +kernel
theorem d_Mod_send_87 : decode b_Mod_send 87 = .ok (.iload 4, 2) := by decide +kernel
theorem d_Mod_send_89 : decode b_Mod_send 89 = .ok (.isub, 1) := by decide +kernel
theorem d_Mod_send_90 : decode b_Mod_send 90 = .ok (.invokevirtual 52, 3) := by decide +kernel
theorem d_Mod_send_93 : decode b_Mod_send 93 = .ok (.ldc 60, 2) := by decide +kernel
theorem d_Mod_send_95 : decode b_Mod_send 95 = .ok (.istore 5, 2) := by decide +kernel
theorem d_Mod_send_97 : decode b_Mod_send 97 = .ok (.iconst 0, 1) := by decide +kernel
theorem d_Mod_send_98 : decode b_Mod_send 98 = .ok (.istore 6, 2) := by decide +kernel
theorem d_Mod_send_100 : decode b_Mod_send 100 = .ok (.iload 6, 2) := by decide +kernel
theorem d_Mod_send_102 : decode b_Mod_send 102 = .ok (.iload_n 3, 1) := by decide +kernel
theorem d_Mod_send_103 : decode b_Mod_send 103 = .ok (.if_icmp .ge 34, 3) := by decide +kernel
theorem d_Mod_send_106 : decode b_Mod_send 106 = .ok (.aload_n 0, 1) := by decide +kernel
theorem d_Mod_send_107 : decode b_Mod_send 107 = .ok (.aload_n 0, 1) := by decide +kernel
theorem d_Mod_send_108 : decode b_Mod_send 108 = .ok (.getfield 19, 3) := by decide +kernel
theorem d_Mod_send_111 : decode b_Mod_send 111 = .ok (.iload 6, 2) := by decide +kernel
theorem d_Mod_send_113 : decode b_Mod_send 113 = .ok (.iaload, 1) := by decide +kernel
theorem d_Mod_send_114 : decode b_Mod_send 114 = .ok (.invokevirtual 52, 3) := by decide +kernel
theorem d_Mod_send_117 : decode b_Mod_send 117 = .ok (.iload 5, 2) := by decide +kernel
theorem d_Mod_send_119 : decode b_Mod_send 119 = .ok (.aload_n 0, 1) := by decide +kernel
theorem d_Mod_send_120 : decode b_Mod_send 120 = .ok (.getfield 19, 3) := by decide +kernel
theorem d_Mod_send_123 : decode b_Mod_send 123 = .ok (.iload 6, 2) := by decide +kernel
theorem d_Mod_send_125 : decode b_Mod_send 125 = .ok (.iaload, 1) := by decide +kernel
theorem d_Mod_send_126 : decode b_Mod_send 126 = .ok (.invokestatic 61, 3) := by decide +kernel
theorem d_Mod_send_129 : decode b_Mod_send 129 = .ok (.istore 5, 2) := by decide +kernel
theorem d_Mod_send_131 : decode b_Mod_send 131 = .ok (.iinc 6 1, 3) := by decide +kernel
theorem d_Mod_send_134 : decode b_Mod_send 134 = .ok (.goto (-34), 3) := by decide +kernel
theorem d_Mod_send_137 : decode b_Mod_send 137 = .ok (.iload_n 3, 1) := by decide +kernel
theorem d_Mod_send_138 : decode b_Mod_send 138 = .ok (.ifCond .le 29, 3) := by decide +kernel
theorem d_Mod_send_141 : decode b_Mod_send 141 = .ok (.aload_n 0, 1) := by decide +kernel
theorem d_Mod_send_142 : decode b_Mod_send 142 = .ok (.ldc 60, 2) := by decide +kernel
theorem d_Mod_send_144 : decode b_Mod_send 144 = .ok (.iload 5, 2) := by decide +kernel
theorem d_Mod_send_146 : decode b_Mod_send 146 = .ok (.isub, 1) := by decide +kernel
theorem d_Mod_send_147 : decode b_Mod_send 147 = .ok (.sipush 256, 3) := by decide +kernel
theorem d_Mod_send_150 : decode b_Mod_send 150 = .ok (.irem, 1) := by decide +kernel
theorem d_Mod_send_151 : decode b_Mod_send 151 = .ok (.invokevirtual 52, 3) := by decide +kernel
theorem d_Mod_send_154 : decode b_Mod_send 154 = .ok (.aload_n 0, 1) := by decide +kernel
theorem d_Mod_send_155 : decode b_Mod_send 155 = .ok (.ldc 60, 2) := by decide +kernel
theorem d_Mod_send_157 : decode b_Mod_send 157 = .ok (.iload 5, 2) := by decide +kernel
theorem d_Mod_send_159 : decode b_Mod_send 159 = .ok (.isub, 1) := by decide +kernel
theorem d_Mod_send_160 : decode b_Mod_send 160 = .ok (.sipush 256, 3) := by decide +kernel
theorem d_Mod_send_163 : decode b_Mod_send 163 = .ok (.idiv, 1) := by decide +kernel
theorem d_Mod_send_164 : decode b_Mod_send 164 = .ok (.invokevirtual 52, 3) := by decide +kernel
theorem d_Mod_send_167 : decode b_Mod_send 167 = .ok (.aload_n 0, 1) := by decide +kernel
theorem d_Mod_send_168 : decode b_Mod_send 168 = .ok (.iconst 0, 1) := by decide +kernel
theorem d_Mod_send_169 : decode b_Mod_send 169 = .ok (.putfield 64, 3) := by decide +kernel
theorem d_Mod_send_172 : decode b_Mod_send 172 = .ok (.return_, 1) := by decide +kernel
theorem d_Mod_put_0 : decode b_Mod_put 0 = .ok (.aload_n 0, 1) := by decide +kernel
theorem d_Mod_put_1 : decode b_Mod_put 1 = .ok (.getfield 16, 3) := by decide +kernel
theorem d_Mod_put_4 : decode b_Mod_put 4 = .ok (.aload_n 0, 1) := by decide +kernel
theorem d_Mod_put_5 : decode b_Mod_put 5 = .ok (.getfield 49, 3) := by decide +kernel
theorem d_Mod_put_8 : decode b_Mod_put 8 = .ok (.iload_n 1, 1) := by decide +kernel
theorem d_Mod_put_9 : decode b_Mod_put 9 = .ok (.iastore, 1) := by decide +kernel
theorem d_Mod_put_10 : decode b_Mod_put 10 = .ok (.aload_n 0, 1) := by decide +kernel
theorem d_Mod_put_11 : decode b_Mod_put 11 = .ok (.dup, 1) := by decide +kernel
theorem d_Mod_put_12 : decode b_Mod_put 12 = .ok (.getfield 49, 3) := by decide +kernel
theorem d_Mod_put_15 : decode b_Mod_put 15 = .ok (.iconst 1, 1) := by decide +kernel
theorem d_Mod_put_16 : decode b_Mod_put 16 = .ok (.iadd, 1) := by decide +kernel
theorem d_Mod_put_17 : decode b_Mod_put 17 = .ok (.putfield 49, 3) := by decide +kernel
theorem d_Mod_put_20 : decode b_Mod_put 20 = .ok (.return_, 1) := by decide +kernel
theorem d_Mod_makeAnswer_0 : decode b_Mod_makeAnswer 0 = .ok (.aload_n 0, 1) := by decide +kernel
theorem d_Mod_makeAnswer_1 : decode b_Mod_makeAnswer 1 = .ok (.iconst 0, 1) := by decide +kernel
theorem d_Mod_makeAnswer_2 : decode b_Mod_makeAnswer 2 = .ok (.putfield 130, 3) := by decide +kernel
theorem d_Mod_makeAnswer_5 : decode b_Mod_makeAnswer 5 = .ok (.aload_n 0, 1) := by decide +kernel
theorem d_Mod_makeAnswer_6 : decode b_Mod_makeAnswer 6 = .ok (.getfield 80, 3) := by decide +kernel
theorem d_Mod_makeAnswer_9 : decode b_Mod_makeAnswer 9 = .ok (.bipush 6, 2) := by decide +kernel
theorem d_Mod_makeAnswer_11 : decode b_Mod_makeAnswer 11 = .ok (.if_icmp .lt 32, 3) := by decide +kernel
theorem d_Mod_makeAnswer_14 : decode b_Mod_makeAnswer 14 = .ok (.aload_n 0, 1) := by decide +kernel
theorem d_Mod_makeAnswer_15 : decode b_Mod_makeAnswer 15 = .ok (.getfield 13, 3) := by decide +kernel
theorem d_Mod_makeAnswer_18 : decode b_Mod_makeAnswer 18 = .ok (.iconst 0, 1) := by decide +kernel
theorem d_Mod_makeAnswer_19 : decode b_Mod_makeAnswer 19 = .ok (.iaload, 1) := by decide +kernel
theorem d_Mod_makeAnswer_20 : decode b_Mod_makeAnswer 20 = .ok (.iconst 1, 1) := by decide +kernel
theorem d_Mod_makeAnswer_21 : decode b_Mod_makeAnswer 21 = .ok (.if_icmp .ne 22, 3) := by decide +kernel
theorem d_Mod_makeAnswer_24 : decode b_Mod_makeAnswer 24 = .ok (.aload_n 0, 1) := by decide +kernel
theorem d_Mod_makeAnswer_25 : decode b_Mod_makeAnswer 25 = .ok (.getfield 13, 3) := by decide +kernel
theorem d_Mod_makeAnswer_28 : decode b_Mod_makeAnswer 28 = .ok (.iconst 1, 1) := by decide +kernel
theorem d_Mod_makeAnswer_29 : decode b_Mod_makeAnswer 29 = .ok (.iaload, 1) := by decide +kernel
theorem d_Mod_makeAnswer_30 : decode b_Mod_makeAnswer 30 = .ok (.iconst 4, 1) := by decide +kernel
theorem d_Mod_makeAnswer_31 : decode b_Mod_makeAnswer 31 = .ok (.if_icmp .ne 12, 3) := by decide +kernel
theorem d_Mod_makeAnswer_34 : decode b_Mod_makeAnswer 34 = .ok (.aload_n 0, 1) := by decide +kernel
theorem d_Mod_makeAnswer_35 : decode b_Mod_makeAnswer 35 = .ok (.getfield 13, 3) := by decide +kernel
theorem d_Mod_makeAnswer_38 : decode b_Mod_makeAnswer 38 = .ok (.iconst 2, 1) := by decide +kernel
theorem d_Mod_makeAnswer_39 : decode b_Mod_makeAnswer 39 = .ok (.iaload, 1) := by decide +kernel
theorem d_Mod_makeAnswer_40 : decode b_Mod_makeAnswer 40 = .ok (.ifCond .eq 4, 3) := by decide +kernel
theorem d_Mod_makeAnswer_43 : decode b_Mod_makeAnswer 43 = .ok (.return_, 1) := by decide +kernel
theorem d_Mod_makeAnswer_44 : decode b_Mod_makeAnswer 44 = .ok (.aload_n 0, 1) := by decide +kernel
theorem d_Mod_makeAnswer_45 : decode b_Mod_makeAnswer 45 = .ok (.getfield 13, 3) := by decide +kernel
theorem d_Mod_makeAnswer_48 : decode b_Mod_makeAnswer 48 = .ok (.iconst 4, 1) := by decide +kernel
theorem d_Mod_makeAnswer_49 : decode b_Mod_makeAnswer 49 = .ok (.iaload, 1) := by decide +kernel
theorem d_Mod_makeAnswer_50 : decode b_Mod_makeAnswer 50 = .ok (.istore_n 1, 1) := by decide +kernel
theorem d_Mod_makeAnswer_51 : decode b_Mod_makeAnswer 51 = .ok (.aload_n 0, 1) := by decide +kernel
theorem d_Mod_makeAnswer_52 : decode b_Mod_makeAnswer 52 = .ok (.getfield 13, 3) := by decide +kernel
theorem d_Mod_makeAnswer_55 : decode b_Mod_makeAnswer 55 = .ok (.iconst 5, 1) := by decide +kernel
theorem d_Mod_makeAnswer_56 : decode b_Mod_makeAnswer 56 = .ok (.iaload, 1) := by decide +kernel
theorem d_Mod_makeAnswer_57 : decode b_Mod_makeAnswer 57 = .ok (.istore_n 2, 1) := by decide +kernel
theorem d_Mod_makeAnswer_58 : decode b_Mod_makeAnswer 58 = .ok (.iload_n 2, 1) := by decide +kernel
theorem d_Mod_makeAnswer_59 : decode b_Mod_makeAnswer 59 = .ok (.bipush 12, 2) := by decide +kernel
theorem d_Mod_makeAnswer_61 : decode b_Mod_makeAnswer 61 = .ok (.if_icmp .eq 17, 3) := by decide +kernel
theorem d_Mod_makeAnswer_64 : decode b_Mod_makeAnswer 64 = .ok (.iload_n 2, 1) := by decide +kernel
theorem d_Mod_makeAnswer_65 : decode b_Mod_makeAnswer 65 = .ok (.bipush 15, 2) := by decide +kernel
theorem d_Mod_makeAnswer_67 : decode b_Mod_makeAnswer 67 = .ok (.if_icmp .eq 11, 3) := by decide +kernel
theorem d_Mod_makeAnswer_70 : decode b_Mod_makeAnswer 70 = .ok (.aload_n 0, 1) := by decide +kernel
theorem d_Mod_makeAnswer_71 : decode b_Mod_makeAnswer 71 = .ok (.iload_n 1, 1) := by decide +kernel
theorem d_Mod_makeAnswer_72 : decode b_Mod_makeAnswer 72 = .ok (.bipush 9, 2) := by decide +kernel
theorem d_Mod_makeAnswer_74 : decode b_Mod_makeAnswer 74 = .ok (.invokevirtual 175, 3) := by decide +kernel
theorem d_Mod_makeAnswer_77 : decode b_Mod_makeAnswer 77 = .ok (.return_, 1) := by decide +kernel
theorem d_Mod_makeAnswer_78 : decode b_Mod_makeAnswer 78 = .ok (.aload_n 0, 1) := by decide +kernel
theorem d_Mod_makeAnswer_79 : decode b_Mod_makeAnswer 79 = .ok (.iconst 1, 1) := by decide +kernel
theorem d_Mod_makeAnswer_80 : decode b_Mod_makeAnswer 80 = .ok (.putfield 165, 3) := by decide +kernel
theorem d_Mod_makeAnswer_83 : decode b_Mod_makeAnswer 83 = .ok (.aload_n 0, 1) := by decide +kernel
theorem d_Mod_makeAnswer_84 : decode b_Mod_makeAnswer 84 = .ok (.bipush 6, 2) := by decide +kernel
theorem d_Mod_makeAnswer_86 : decode b_Mod_makeAnswer 86 = .ok (.putfield 168, 3) := by decide +kernel
theorem d_Mod_makeAnswer_89 : decode b_Mod_makeAnswer 89 = .ok (.aload_n 0, 1) := by decide +kernel
theorem d_Mod_makeAnswer_90 : decode b_Mod_makeAnswer 90 = .ok (.bipush 12, 2) := by decide +kernel
theorem d_Mod_makeAnswer_92 : decode b_Mod_makeAnswer 92 = .ok (.invokevirtual 179, 3) := by decide +kernel
theorem d_Mod_makeAnswer_95 : decode b_Mod_makeAnswer 95 = .ok (.aload_n 0, 1) := by decide +kernel
theorem d_Mod_makeAnswer_96 : decode b_Mod_makeAnswer 96 = .ok (.invokevirtual 182, 3) := by decide +kernel
theorem d_Mod_makeAnswer_99 : decode b_Mod_makeAnswer 99 = .ok (.istore_n 3, 1) := by decide +kernel
theorem d_Mod_makeAnswer_100 : decode b_Mod_makeAnswer 100 = .ok (.aload_n 0, 1) := by decide +kernel
theorem d_Mod_makeAnswer_101 : decode b_Mod_makeAnswer 101 = .ok (.bipush 25, 2) := by decide +kernel
theorem d_Mod_makeAnswer_103 : decode b_Mod_makeAnswer 103 = .ok (.invokevirtual 179, 3) := by decide +kernel
theorem d_Mod_makeAnswer_106 : decode b_Mod_makeAnswer 106 = .ok (.aload_n 0, 1) := by decide +kernel
theorem d_Mod_makeAnswer_107 : decode b_Mod_makeAnswer 107 = .ok (.invokevirtual 171, 3) := by decide +kernel
theorem d_Mod_makeAnswer_110 : decode b_Mod_makeAnswer 110 = .ok (.istore 4, 2) := by decide +kernel
theorem d_Mod_makeAnswer_112 : decode b_Mod_makeAnswer 112 = .ok (.iconst (-1), 1) := by decide +kernel
theorem d_Mod_makeAnswer_113 : decode b_Mod_makeAnswer 113 = .ok (.istore 5, 2) := by decide +kernel
theorem d_Mod_makeAnswer_115 : decode b_Mod_makeAnswer 115 = .ok (.aload_n 0, 1) := by decide +kernel
theorem d_Mod_makeAnswer_116 : decode b_Mod_makeAnswer 116 = .ok (.bipush 41, 2) := by decide +kernel
theorem d_Mod_makeAnswer_118 : decode b_Mod_makeAnswer 118 = .ok (.invokevirtual 185, 3) := by decide +kernel
theorem d_Mod_makeAnswer_121 : decode b_Mod_makeAnswer 121 = .ok (.ifCond .eq 19, 3) := by decide +kernel
theorem d_Mod_makeAnswer_124 : decode b_Mod_makeAnswer 124 = .ok (.aload_n 0, 1) := by decide +kernel
theorem d_Mod_makeAnswer_125 : decode b_Mod_makeAnswer 125 = .ok (.dup, 1) := by decide +kernel
theorem d_Mod_makeAnswer_126 : decode b_Mod_makeAnswer 126 = .ok (.getfield 168, 3) := by decide +kernel
theorem d_Mod_makeAnswer_129 : decode b_Mod_makeAnswer 129 = .ok (.iconst 1, 1) := by decide +kernel
theorem d_Mod_makeAnswer_130 : decode b_Mod_makeAnswer 130 = .ok (.iadd, 1) := by decide +kernel
theorem d_Mod_makeAnswer_131 : decode b_Mod_makeAnswer 131 = .ok (.putfield 168, 3) := by decide +kernel
theorem d_Mod_makeAnswer_134 : decode b_Mod_makeAnswer 134 = .ok (.aload_n 0, 1) := by decide +kernel
theorem d_Mod_makeAnswer_135 : decode b_Mod_makeAnswer 135 = .ok (.invokevirtual 171, 3) := by decide +kernel
theorem d_Mod_makeAnswer_138 : decode b_Mod_makeAnswer 138 = .ok (.istore 5, 2) := by decide +kernel
theorem d_Mod_makeAnswer_140 : decode b_Mod_makeAnswer 140 = .ok (.iconst (-1), 1) := by decide +kernel
theorem d_Mod_makeAnswer_141 : decode b_Mod_makeAnswer 141 = .ok (.istore 6, 2) := by decide +kernel
theorem d_Mod_makeAnswer_143 : decode b_Mod_makeAnswer 143 = .ok (.iconst 0, 1) := by decide +kernel
theorem d_Mod_makeAnswer_144 : decode b_Mod_makeAnswer 144 = .ok (.istore 7, 2) := by decide +kernel
theorem d_Mod_makeAnswer_146 : decode b_Mod_makeAnswer 146 = .ok (.bipush 16, 2) := by decide +kernel
theorem d_Mod_makeAnswer_148 : decode b_Mod_makeAnswer 148 = .ok (.istore 8, 2) := by decide +kernel
theorem d_Mod_makeAnswer_150 : decode b_Mod_makeAnswer 150 = .ok (.iload_n 2, 1) := by decide +kernel
theorem d_Mod_makeAnswer_151 : decode b_Mod_makeAnswer 151 = .ok (.bipush 15, 2) := by decide +kernel
theorem d_Mod_makeAnswer_153 : decode b_Mod_makeAnswer 153 = .ok (.if_icmp .ne 143, 3) := by decide +kernel
theorem d_Mod_makeAnswer_156 : decode b_Mod_makeAnswer 156 = .ok (.aload_n 0, 1) := by decide +kernel
theorem d_Mod_makeAnswer_157 : decode b_Mod_makeAnswer 157 = .ok (.bipush 62, 2) := by decide +kernel
theorem d_Mod_makeAnswer_159 : decode b_Mod_makeAnswer 159 = .ok (.invokevirtual 179, 3) := by decide +kernel
theorem d_Mod_makeAnswer_162 : decode b_Mod_makeAnswer 162 = .ok (.aload_n 0, 1) := by decide +kernel
theorem d_Mod_makeAnswer_163 : decode b_Mod_makeAnswer 163 = .ok (.invokevirtual 171, 3) := by decide +kernel
theorem d_Mod_makeAnswer_166 : decode b_Mod_makeAnswer 166 = .ok (.istore 6, 2) := by decide +kernel
theorem d_Mod_makeAnswer_168 : decode b_Mod_makeAnswer 168 = .ok (.iload 6, 2) := by decide +kernel
theorem d_Mod_makeAnswer_170 : decode b_Mod_makeAnswer 170 = .ok (.bipush 68, 2) := by decide +kernel
theorem d_Mod_makeAnswer_172 : decode b_Mod_makeAnswer 172 = .ok (.if_icmp .ne 10, 3) := by decide +kernel
theorem d_Mod_makeAnswer_175 : decode b_Mod_makeAnswer 175 = .ok (.aload_n 0, 1) := by decide +kernel
theorem d_Mod_makeAnswer_176 : decode b_Mod_makeAnswer 176 = .ok (.invokevirtual 182, 3) := by decide +kernel
theorem d_Mod_makeAnswer_179 : decode b_Mod_makeAnswer 179 = .ok (.goto 19, 3) := by decide +kernel
theorem d_Mod_makeAnswer_182 : decode b_Mod_makeAnswer 182 = .ok (.iload 6, 2) := by decide +kernel
theorem d_Mod_makeAnswer_184 : decode b_Mod_makeAnswer 184 = .ok (.sipush 145, 3) := by decide +kernel
theorem d_Mod_makeAnswer_187 : decode b_Mod_makeAnswer 187 = .ok (.if_icmp .ne 10, 3) := by decide +kernel
theorem d_Mod_makeAnswer_190 : decode b_Mod_makeAnswer 190 = .ok (.aload_n 0, 1) := by decide +kernel
theorem d_Mod_makeAnswer_191 : decode b_Mod_makeAnswer 191 = .ok (.invokevirtual 171, 3) := by decide +kernel
theorem d_Mod_makeAnswer_194 : decode b_Mod_makeAnswer 194 = .ok (.goto 4, 3) := by decide +kernel
theorem d_Mod_makeAnswer_197 : decode b_Mod_makeAnswer 197 = .ok (.iconst 0, 1) := by decide +kernel
theorem d_Mod_makeAnswer_198 : decode b_Mod_makeAnswer 198 = .ok (.istore 7, 2) := by decide +kernel
theorem d_Mod_makeAnswer_200 : decode b_Mod_makeAnswer 200 = .ok (.aload_n 0, 1) := by decide +kernel
theorem d_Mod_makeAnswer_201 : decode b_Mod_makeAnswer 201 = .ok (.aload_n 0, 1) := by decide +kernel
theorem d_Mod_makeAnswer_202 : decode b_Mod_makeAnswer 202 = .ok (.getfield 165, 3) := by decide +kernel
theorem d_Mod_makeAnswer_205 : decode b_Mod_makeAnswer 205 = .ok (.ifCond .eq 27, 3) := by decide +kernel
theorem d_Mod_makeAnswer_208 : decode b_Mod_makeAnswer 208 = .ok (.iload 6, 2) := by decide +kernel
theorem d_Mod_makeAnswer_210 : decode b_Mod_makeAnswer 210 = .ok (.ifCond .eq 18, 3) := by decide +kernel
theorem d_Mod_makeAnswer_213 : decode b_Mod_makeAnswer 213 = .ok (.iload 6, 2) := by decide +kernel
theorem d_Mod_makeAnswer_215 : decode b_Mod_makeAnswer 215 = .ok (.bipush 68, 2) := by decide +kernel
theorem d_Mod_makeAnswer_217 : decode b_Mod_makeAnswer 217 = .ok (.if_icmp .eq 11, 3) := by decide +kernel
theorem d_Mod_makeAnswer_220 : decode b_Mod_makeAnswer 220 = .ok (.iload 6, 2) := by decide +kernel
theorem d_Mod_makeAnswer_222 : decode b_Mod_makeAnswer 222 = .ok (.sipush 145, 3) := by decide +kernel
theorem d_Mod_makeAnswer_225 : decode b_Mod_makeAnswer 225 = .ok (.if_icmp .ne 7, 3) := by decide +kernel
theorem d_Mod_makeAnswer_228 : decode b_Mod_makeAnswer 228 = .ok (.iconst 1, 1) := by decide +kernel
theorem d_Mod_makeAnswer_229 : decode b_Mod_makeAnswer 229 = .ok (.goto 4, 3) := by decide +kernel
theorem d_Mod_makeAnswer_232 : decode b_Mod_makeAnswer 232 = .ok (.iconst 0, 1) := by decide +kernel
theorem d_Mod_makeAnswer_233 : decode b_Mod_makeAnswer 233 = .ok (.putfield 165, 3) := by decide +kernel
theorem d_Mod_makeAnswer_236 : decode b_Mod_makeAnswer 236 = .ok (.aload_n 0, 1) := by decide +kernel
theorem d_Mod_makeAnswer_237 : decode b_Mod_makeAnswer 237 = .ok (.bipush 63, 2) := by decide +kernel
theorem d_Mod_makeAnswer_239 : decode b_Mod_makeAnswer 239 = .ok (.invokevirtual 179, 3) := by decide +kernel
theorem d_Mod_makeAnswer_242 : decode b_Mod_makeAnswer 242 = .ok (.aload_n 0, 1) := by decide +kernel
theorem d_Mod_makeAnswer_243 : decode b_Mod_makeAnswer 243 = .ok (.bipush 73, 2) := by decide +kernel
theorem d_Mod_makeAnswer_245 : decode b_Mod_makeAnswer 245 = .ok (.invokevirtual 185, 3) := by decide +kernel
theorem d_Mod_makeAnswer_248 : decode b_Mod_makeAnswer 248 = .ok (.ifCond .eq 48, 3) := by decide +kernel
theorem d_Mod_makeAnswer_251 : decode b_Mod_makeAnswer 251 = .ok (.aload_n 0, 1) := by decide +kernel
theorem d_Mod_makeAnswer_252 : decode b_Mod_makeAnswer 252 = .ok (.dup, 1) := by decide +kernel
theorem d_Mod_makeAnswer_253 : decode b_Mod_makeAnswer 253 = .ok (.getfield 168, 3) := by decide +kernel
theorem d_Mod_makeAnswer_256 : decode b_Mod_makeAnswer 256 = .ok (.iconst 1, 1) := by decide +kernel
theorem d_Mod_makeAnswer_257 : decode b_Mod_makeAnswer 257 = .ok (.iadd, 1) := by decide +kernel
theorem d_Mod_makeAnswer_258 : decode b_Mod_makeAnswer 258 = .ok (.putfield 168, 3) := by decide +kernel
theorem d_Mod_makeAnswer_261 : decode b_Mod_makeAnswer 261 = .ok (.aload_n 0, 1) := by decide +kernel
theorem d_Mod_makeAnswer_262 : decode b_Mod_makeAnswer 262 = .ok (.invokevirtual 171, 3) := by decide +kernel
theorem d_Mod_makeAnswer_265 : decode b_Mod_makeAnswer 265 = .ok (.istore 8, 2) := by decide +kernel
theorem d_Mod_makeAnswer_267 : decode b_Mod_makeAnswer 267 = .ok (.aload_n 0, 1) := by decide +kernel
theorem d_Mod_makeAnswer_268 : decode b_Mod_makeAnswer 268 = .ok (.aload_n 0, 1) := by decide +kernel
theorem d_Mod_makeAnswer_269 : decode b_Mod_makeAnswer 269 = .ok (.getfield 165, 3) := by decide +kernel
theorem d_Mod_makeAnswer_272 : decode b_Mod_makeAnswer 272 = .ok (.ifCond .eq 20, 3) := by decide +kernel
theorem d_Mod_makeAnswer_275 : decode b_Mod_makeAnswer 275 = .ok (.iload 8, 2) := by decide +kernel
theorem d_Mod_makeAnswer_277 : decode b_Mod_makeAnswer 277 = .ok (.iconst 1, 1) := by decide +kernel
theorem d_Mod_makeAnswer_278 : decode b_Mod_makeAnswer 278 = .ok (.if_icmp .lt 14, 3) := by decide +kernel
theorem d_Mod_makeAnswer_281 : decode b_Mod_makeAnswer 281 = .ok (.iload 8, 2) := by decide +kernel
theorem d_Mod_makeAnswer_283 : decode b_Mod_makeAnswer 283 = .ok (.bipush 16, 2) := by decide +kernel
theorem d_Mod_makeAnswer_285 : decode b_Mod_makeAnswer 285 = .ok (.if_icmp .gt 7, 3) := by decide +kernel
theorem d_Mod_makeAnswer_288 : decode b_Mod_makeAnswer 288 = .ok (.iconst 1, 1) := by decide +kernel
theorem d_Mod_makeAnswer_289 : decode b_Mod_makeAnswer 289 = .ok (.goto 4, 3) := by decide +kernel
theorem d_Mod_makeAnswer_292 : decode b_Mod_makeAnswer 292 = .ok (.iconst 0, 1) := by decide +kernel
theorem d_Mod_makeAnswer_293 : decode b_Mod_makeAnswer 293 = .ok (.putfield 165, 3) := by decide +kernel
theorem d_Mod_makeAnswer_296 : decode b_Mod_makeAnswer 296 = .ok (.aload_n 0, 1) := by decide +kernel
theorem d_Mod_makeAnswer_297 : decode b_Mod_makeAnswer 297 = .ok (.getfield 165, 3) := by decide +kernel
theorem d_Mod_makeAnswer_300 : decode b_Mod_makeAnswer 300 = .ok (.ifCond .eq 14, 3) := by decide +kernel
theorem d_Mod_makeAnswer_303 : decode b_Mod_makeAnswer 303 = .ok (.aload_n 0, 1) := by decide +kernel
theorem d_Mod_makeAnswer_304 : decode b_Mod_makeAnswer 304 = .ok (.getfield 168, 3) := by decide +kernel
theorem d_Mod_makeAnswer_307 : decode b_Mod_makeAnswer 307 = .ok (.aload_n 0, 1) := by decide +kernel
theorem d_Mod_makeAnswer_308 : decode b_Mod_makeAnswer 308 = .ok (.getfield 80, 3) := by decide +kernel
theorem d_Mod_makeAnswer_311 : decode b_Mod_makeAnswer 311 = .ok (.if_icmp .eq 12, 3) := by decide +kernel
theorem d_Mod_makeAnswer_314 : decode b_Mod_makeAnswer 314 = .ok (.aload_n 0, 1) := by decide +kernel
theorem d_Mod_makeAnswer_315 : decode b_Mod_makeAnswer 315 = .ok (.iload_n 1, 1) := by decide +kernel
theorem d_Mod_makeAnswer_316 : decode b_Mod_makeAnswer 316 = .ok (.iconst 4, 1) := by decide +kernel
theorem d_Mod_makeAnswer_317 : decode b_Mod_makeAnswer 317 = .ok (.invokevirtual 175, 3) := by decide +kernel
theorem d_Mod_makeAnswer_320 : decode b_Mod_makeAnswer 320 = .ok (.goto 19, 3) := by decide +kernel
theorem d_Mod_makeAnswer_323 : decode b_Mod_makeAnswer 323 = .ok (.aload_n 0, 1) := by decide +kernel
theorem d_Mod_makeAnswer_324 : decode b_Mod_makeAnswer 324 = .ok (.iload_n 1, 1) := by decide +kernel
