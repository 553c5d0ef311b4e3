theorem d_PT_ask_116 : decode b_PT_ask 116 = .ok (.getfield 21, 3) := by decide +kernel
theorem d_PT_ask_119 : decode b_PT_ask 119 = .ok (.iload_n 3, 1) := by decide +kernel
theorem d_PT_ask_120 : decode b_PT_ask 120 = .ok (.ldc 119, 2) := by decide +kernel
theorem d_PT_ask_122 : decode b_PT_ask 122 = .ok (.imul, 1) := by decide +kernel
theorem d_PT_ask_123 : decode b_PT_ask 123 = .ok (.iload 4, 2) := by decide +kernel
theorem d_PT_ask_125 : decode b_PT_ask 125 = .ok (.iadd, 1) := by decide +kernel
theorem d_PT_ask_126 : decode b_PT_ask 126 = .ok (.invokevirtual 120, 3) := by decide +kernel
theorem d_PT_ask_129 : decode b_PT_ask 129 = .ok (.aload_n 0, 1) := by decide +kernel
theorem d_PT_ask_130 : decode b_PT_ask 130 = .ok (.getfield 21, 3) := by decide +kernel
theorem d_PT_ask_133 : decode b_PT_ask 133 = .ok (.bipush 25, 2) := by decide +kernel
theorem d_PT_ask_135 : decode b_PT_ask 135 = .ok (.invokevirtual 116, 3) := by decide +kernel
theorem d_PT_ask_138 : decode b_PT_ask 138 = .ok (.aload_n 0, 1) := by decide +kernel
theorem d_PT_ask_139 : decode b_PT_ask 139 = .ok (.getfield 21, 3) := by decide +kernel
theorem d_PT_ask_142 : decode b_PT_ask 142 = .ok (.iload 5, 2) := by decide +kernel
theorem d_PT_ask_144 : decode b_PT_ask 144 = .ok (.invokevirtual 116, 3) := by decide +kernel
theorem d_PT_ask_147 : decode b_PT_ask 147 = .ok (.aload_n 0, 1) := by decide +kernel
theorem d_PT_ask_148 : decode b_PT_ask 148 = .ok (.iload_n 1, 1) := by decide +kernel
theorem d_PT_ask_149 : decode b_PT_ask 149 = .ok (.putfield 54, 3) := by decide +kernel
theorem d_PT_ask_152 : decode b_PT_ask 152 = .ok (.aload_n 0, 1) := by decide +kernel
theorem d_PT_ask_153 : decode b_PT_ask 153 = .ok (.iconst 1, 1) := by decide +kernel
theorem d_PT_ask_154 : decode b_PT_ask 154 = .ok (.putfield 57, 3) := by decide +kernel
theorem d_PT_ask_157 : decode b_PT_ask 157 = .ok (.iconst 1, 1) := by decide +kernel
theorem d_PT_ask_158 : decode b_PT_ask 158 = .ok (.ireturn, 1) := by decide +kernel
theorem d_PT_replied_0 : decode b_PT_replied 0 = .ok (.aload_n 0, 1) := by decide +kernel
theorem d_PT_replied_1 : decode b_PT_replied 1 = .ok (.getfield 24, 3) := by decide +kernel
theorem d_PT_replied_4 : decode b_PT_replied 4 = .ok (.invokevirtual 102, 3) := by decide +kernel
theorem d_PT_replied_7 : decode b_PT_replied 7 = .ok (.ireturn, 1) := by decide +kernel
theorem d_PT_reply_0 : decode b_PT_reply 0 = .ok (.aload_n 0, 1) := by decide +kernel
theorem d_PT_reply_1 : decode b_PT_reply 1 = .ok (.getfield 24, 3) := by decide +kernel
theorem d_PT_reply_4 : decode b_PT_reply 4 = .ok (.iload_n 1, 1) := by decide +kernel
theorem d_PT_reply_5 : decode b_PT_reply 5 = .ok (.invokevirtual 109, 3) := by decide +kernel
theorem d_PT_reply_8 : decode b_PT_reply 8 = .ok (.ireturn, 1) := by decide +kernel
theorem d_PT_state_0 : decode b_PT_state 0 = .ok (.aload_n 0, 1) := by decide +kernel
theorem d_PT_state_1 : decode b_PT_state 1 = .ok (.getfield 34, 3) := by decide +kernel
theorem d_PT_state_4 : decode b_PT_state 4 = .ok (.bipush 8, 2) := by decide +kernel
theorem d_PT_state_6 : decode b_PT_state 6 = .ok (.aload_n 0, 1) := by decide +kernel
theorem d_PT_state_7 : decode b_PT_state 7 = .ok (.getfield 75, 3) := by decide +kernel
theorem d_PT_state_10 : decode b_PT_state 10 = .ok (.imul, 1) := by decide +kernel
theorem d_PT_state_11 : decode b_PT_state 11 = .ok (.iadd, 1) := by decide +kernel
theorem d_PT_state_12 : decode b_PT_state 12 = .ok (.sipush 128, 3) := by decide +kernel
theorem d_PT_state_15 : decode b_PT_state 15 = .ok (.aload_n 0, 1) := by decide +kernel
theorem d_PT_state_16 : decode b_PT_state 16 = .ok (.getfield 78, 3) := by decide +kernel
theorem d_PT_state_19 : decode b_PT_state 19 = .ok (.imul, 1) := by decide +kernel
theorem d_PT_state_20 : decode b_PT_state 20 = .ok (.iadd, 1) := by decide +kernel
theorem d_PT_state_21 : decode b_PT_state 21 = .ok (.aload_n 0, 1) := by decide +kernel
theorem d_PT_state_22 : decode b_PT_state 22 = .ok (.getfield 44, 3) := by decide +kernel
theorem d_PT_state_25 : decode b_PT_state 25 = .ok (.ifCond .eq 9, 3) := by decide +kernel
theorem d_PT_state_28 : decode b_PT_state 28 = .ok (.sipush 2048, 3) := by decide +kernel
theorem d_PT_state_31 : decode b_PT_state 31 = .ok (.goto 4, 3) := by decide +kernel
theorem d_PT_state_34 : decode b_PT_state 34 = .ok (.iconst 0, 1) := by decide +kernel
theorem d_PT_state_35 : decode b_PT_state 35 = .ok (.iadd, 1) := by decide +kernel
theorem d_PT_state_36 : decode b_PT_state 36 = .ok (.aload_n 0, 1) := by decide +kernel
theorem d_PT_state_37 : decode b_PT_state 37 = .ok (.getfield 57, 3) := by decide +kernel
theorem d_PT_state_40 : decode b_PT_state 40 = .ok (.ifCond .eq 9, 3) := by decide +kernel
theorem d_PT_state_43 : decode b_PT_state 43 = .ok (.sipush 4096, 3) := by decide +kernel
theorem d_PT_state_46 : decode b_PT_state 46 = .ok (.goto 4, 3) := by decide +kernel
theorem d_PT_state_49 : decode b_PT_state 49 = .ok (.iconst 0, 1) := by decide +kernel
theorem d_PT_state_50 : decode b_PT_state 50 = .ok (.iadd, 1) := by decide +kernel
theorem d_PT_state_51 : decode b_PT_state 51 = .ok (.ireturn, 1) := by decide +kernel
theorem d_PT_silence_0 : decode b_PT_silence 0 = .ok (.aload_n 0, 1) := by decide +kernel
theorem d_PT_silence_1 : decode b_PT_silence 1 = .ok (.getfield 51, 3) := by decide +kernel
theorem d_PT_silence_4 : decode b_PT_silence 4 = .ok (.sipush 1000, 3) := by decide +kernel
theorem d_PT_silence_7 : decode b_PT_silence 7 = .ok (.invokestatic 60, 3) := by decide +kernel
theorem d_PT_silence_10 : decode b_PT_silence 10 = .ok (.ireturn, 1) := by decide +kernel
theorem d_PT_set_0 : decode b_PT_set 0 = .ok (.aload_n 0, 1) := by decide +kernel
theorem d_PT_set_1 : decode b_PT_set 1 = .ok (.getfield 30, 3) := by decide +kernel
theorem d_PT_set_4 : decode b_PT_set 4 = .ok (.iload_n 1, 1) := by decide +kernel
theorem d_PT_set_5 : decode b_PT_set 5 = .ok (.invokevirtual 123, 3) := by decide +kernel
theorem d_PT_set_8 : decode b_PT_set 8 = .ok (.astore 5, 2) := by decide +kernel
theorem d_PT_set_10 : decode b_PT_set 10 = .ok (.aload 5, 2) := by decide +kernel
theorem d_PT_set_12 : decode b_PT_set 12 = .ok (.ifnonnull 5, 3) := by decide +kernel
theorem d_PT_set_15 : decode b_PT_set 15 = .ok (.iconst 0, 1) := by decide +kernel
theorem d_PT_set_16 : decode b_PT_set 16 = .ok (.ireturn, 1) := by decide +kernel
theorem d_PT_set_17 : decode b_PT_set 17 = .ok (.iload 4, 2) := by decide +kernel
theorem d_PT_set_19 : decode b_PT_set 19 = .ok (.ifCond .eq 12, 3) := by decide +kernel
theorem d_PT_set_22 : decode b_PT_set 22 = .ok (.aload 5, 2) := by decide +kernel
theorem d_PT_set_24 : decode b_PT_set 24 = .ok (.iload_n 2, 1) := by decide +kernel
theorem d_PT_set_25 : decode b_PT_set 25 = .ok (.invokevirtual 127, 3) := by decide +kernel
theorem d_PT_set_28 : decode b_PT_set 28 = .ok (.goto 10, 3) := by decide +kernel
theorem d_PT_set_31 : decode b_PT_set 31 = .ok (.aload 5, 2) := by decide +kernel
theorem d_PT_set_33 : decode b_PT_set 33 = .ok (.iload_n 2, 1) := by decide +kernel
theorem d_PT_set_34 : decode b_PT_set 34 = .ok (.iload_n 3, 1) := by decide +kernel
theorem d_PT_set_35 : decode b_PT_set 35 = .ok (.invokevirtual 132, 3) := by decide +kernel
theorem d_PT_set_38 : decode b_PT_set 38 = .ok (.ireturn, 1) := by decide +kernel
theorem d_PT_present_0 : decode b_PT_present 0 = .ok (.aload_n 0, 1) := by decide +kernel
theorem d_PT_present_1 : decode b_PT_present 1 = .ok (.getfield 30, 3) := by decide +kernel
theorem d_PT_present_4 : decode b_PT_present 4 = .ok (.iload_n 1, 1) := by decide +kernel
theorem d_PT_present_5 : decode b_PT_present 5 = .ok (.invokevirtual 123, 3) := by decide +kernel
theorem d_PT_present_8 : decode b_PT_present 8 = .ok (.astore_n 2, 1) := by decide +kernel
theorem d_PT_present_9 : decode b_PT_present 9 = .ok (.aload_n 2, 1) := by decide +kernel
theorem d_PT_present_10 : decode b_PT_present 10 = .ok (.ifnonnull 7, 3) := by decide +kernel
theorem d_PT_present_13 : decode b_PT_present 13 = .ok (.iconst 0, 1) := by decide +kernel
theorem d_PT_present_14 : decode b_PT_present 14 = .ok (.goto 7, 3) := by decide +kernel
theorem d_PT_present_17 : decode b_PT_present 17 = .ok (.aload_n 2, 1) := by decide +kernel
theorem d_PT_present_18 : decode b_PT_present 18 = .ok (.invokevirtual 136, 3) := by decide +kernel
theorem d_PT_present_21 : decode b_PT_present 21 = .ok (.ireturn, 1) := by decide +kernel
