theorem d_Row_init_0 : decode b_Row_init 0 = .ok (.aload_n 0, 1) := by decide +kernel
theorem d_Row_init_1 : decode b_Row_init 1 = .ok (.invokespecial 3, 3) := by decide +kernel
theorem d_Row_init_4 : decode b_Row_init 4 = .ok (.aload_n 0, 1) := by decide +kernel
theorem d_Row_init_5 : decode b_Row_init 5 = .ok (.iconst 0, 1) := by decide +kernel
theorem d_Row_init_6 : decode b_Row_init 6 = .ok (.putfield 9, 3) := by decide +kernel
theorem d_Row_init_9 : decode b_Row_init 9 = .ok (.aload_n 0, 1) := by decide +kernel
theorem d_Row_init_10 : decode b_Row_init 10 = .ok (.iload_n 1, 1) := by decide +kernel
theorem d_Row_init_11 : decode b_Row_init 11 = .ok (.newarray .int, 2) := by decide +kernel
theorem d_Row_init_13 : decode b_Row_init 13 = .ok (.putfield 15, 3) := by decide +kernel
theorem d_Row_init_16 : decode b_Row_init 16 = .ok (.return_, 1) := by decide +kernel
theorem d_Thing_init_0 : decode b_Thing_init 0 = .ok (.aload_n 0, 1) := by decide +kernel
theorem d_Thing_init_1 : decode b_Thing_init 1 = .ok (.invokespecial 3, 3) := by decide +kernel
theorem d_Thing_init_4 : decode b_Thing_init 4 = .ok (.aload_n 0, 1) := by decide +kernel
theorem d_Thing_init_5 : decode b_Thing_init 5 = .ok (.bipush 17, 2) := by decide +kernel
theorem d_Thing_init_7 : decode b_Thing_init 7 = .ok (.newarray .int, 2) := by decide +kernel
theorem d_Thing_init_9 : decode b_Thing_init 9 = .ok (.putfield 9, 3) := by decide +kernel
theorem d_Thing_init_12 : decode b_Thing_init 12 = .ok (.aload_n 0, 1) := by decide +kernel
theorem d_Thing_init_13 : decode b_Thing_init 13 = .ok (.bipush 17, 2) := by decide +kernel
theorem d_Thing_init_15 : decode b_Thing_init 15 = .ok (.newarray .boolean, 2) := by decide +kernel
theorem d_Thing_init_17 : decode b_Thing_init 17 = .ok (.putfield 15, 3) := by decide +kernel
theorem d_Thing_init_20 : decode b_Thing_init 20 = .ok (.aload_n 0, 1) := by decide +kernel
theorem d_Thing_init_21 : decode b_Thing_init 21 = .ok (.iload_n 1, 1) := by decide +kernel
theorem d_Thing_init_22 : decode b_Thing_init 22 = .ok (.ldc 19, 2) := by decide +kernel
theorem d_Thing_init_24 : decode b_Thing_init 24 = .ok (.imul, 1) := by decide +kernel
theorem d_Thing_init_25 : decode b_Thing_init 25 = .ok (.iload_n 2, 1) := by decide +kernel
theorem d_Thing_init_26 : decode b_Thing_init 26 = .ok (.iadd, 1) := by decide +kernel
theorem d_Thing_init_27 : decode b_Thing_init 27 = .ok (.putfield 20, 3) := by decide +kernel
theorem d_Thing_init_30 : decode b_Thing_init 30 = .ok (.aload_n 0, 1) := by decide +kernel
theorem d_Thing_init_31 : decode b_Thing_init 31 = .ok (.iload_n 1, 1) := by decide +kernel
theorem d_Thing_init_32 : decode b_Thing_init 32 = .ok (.iconst 4, 1) := by decide +kernel
theorem d_Thing_init_33 : decode b_Thing_init 33 = .ok (.if_icmp .ne 7, 3) := by decide +kernel
theorem d_Thing_init_36 : decode b_Thing_init 36 = .ok (.iconst 1, 1) := by decide +kernel
theorem d_Thing_init_37 : decode b_Thing_init 37 = .ok (.goto 4, 3) := by decide +kernel
theorem d_Thing_init_40 : decode b_Thing_init 40 = .ok (.iconst 0, 1) := by decide +kernel
theorem d_Thing_init_41 : decode b_Thing_init 41 = .ok (.putfield 24, 3) := by decide +kernel
theorem d_Thing_init_44 : decode b_Thing_init 44 = .ok (.aload_n 0, 1) := by decide +kernel
theorem d_Thing_init_45 : decode b_Thing_init 45 = .ok (.getfield 15, 3) := by decide +kernel
theorem d_Thing_init_48 : decode b_Thing_init 48 = .ok (.iconst 0, 1) := by decide +kernel
theorem d_Thing_init_49 : decode b_Thing_init 49 = .ok (.iconst 1, 1) := by decide +kernel
theorem d_Thing_init_50 : decode b_Thing_init 50 = .ok (.bastore, 1) := by decide +kernel
theorem d_Thing_init_51 : decode b_Thing_init 51 = .ok (.return_, 1) := by decide +kernel
theorem d_Ear_init_0 : decode b_Ear_init 0 = .ok (.aload_n 0, 1) := by decide +kernel
theorem d_Ear_init_1 : decode b_Ear_init 1 = .ok (.invokespecial 3, 3) := by decide +kernel
theorem d_Ear_init_4 : decode b_Ear_init 4 = .ok (.aload_n 0, 1) := by decide +kernel
theorem d_Ear_init_5 : decode b_Ear_init 5 = .ok (.new 9, 3) := by decide +kernel
theorem d_Ear_init_8 : decode b_Ear_init 8 = .ok (.dup, 1) := by decide +kernel
theorem d_Ear_init_9 : decode b_Ear_init 9 = .ok (.iconst 5, 1) := by decide +kernel
theorem d_Ear_init_10 : decode b_Ear_init 10 = .ok (.invokespecial 13, 3) := by decide +kernel
theorem d_Ear_init_13 : decode b_Ear_init 13 = .ok (.putfield 16, 3) := by decide +kernel
theorem d_Ear_init_16 : decode b_Ear_init 16 = .ok (.aload_n 0, 1) := by decide +kernel
theorem d_Ear_init_17 : decode b_Ear_init 17 = .ok (.new 9, 3) := by decide +kernel
theorem d_Ear_init_20 : decode b_Ear_init 20 = .ok (.dup, 1) := by decide +kernel
theorem d_Ear_init_21 : decode b_Ear_init 21 = .ok (.bipush 40, 2) := by decide +kernel
theorem d_Ear_init_23 : decode b_Ear_init 23 = .ok (.invokespecial 13, 3) := by decide +kernel
theorem d_Ear_init_26 : decode b_Ear_init 26 = .ok (.putfield 22, 3) := by decide +kernel
theorem d_Ear_init_29 : decode b_Ear_init 29 = .ok (.aload_n 0, 1) := by decide +kernel
theorem d_Ear_init_30 : decode b_Ear_init 30 = .ok (.iconst 0, 1) := by decide +kernel
theorem d_Ear_init_31 : decode b_Ear_init 31 = .ok (.putfield 25, 3) := by decide +kernel
theorem d_Ear_init_34 : decode b_Ear_init 34 = .ok (.aload_n 0, 1) := by decide +kernel
theorem d_Ear_init_35 : decode b_Ear_init 35 = .ok (.iconst 0, 1) := by decide +kernel
theorem d_Ear_init_36 : decode b_Ear_init 36 = .ok (.putfield 29, 3) := by decide +kernel
theorem d_Ear_init_39 : decode b_Ear_init 39 = .ok (.aload_n 0, 1) := by decide +kernel
theorem d_Ear_init_40 : decode b_Ear_init 40 = .ok (.iconst 0, 1) := by decide +kernel
theorem d_Ear_init_41 : decode b_Ear_init 41 = .ok (.putfield 32, 3) := by decide +kernel
theorem d_Ear_init_44 : decode b_Ear_init 44 = .ok (.aload_n 0, 1) := by decide +kernel
theorem d_Ear_init_45 : decode b_Ear_init 45 = .ok (.iload_n 1, 1) := by decide +kernel
theorem d_Ear_init_46 : decode b_Ear_init 46 = .ok (.putfield 35, 3) := by decide +kernel
theorem d_Ear_init_49 : decode b_Ear_init 49 = .ok (.return_, 1) := by decide +kernel
theorem d_Row_clear_0 : decode b_Row_clear 0 = .ok (.aload_n 0, 1) := by decide +kernel
theorem d_Row_clear_1 : decode b_Row_clear 1 = .ok (.iconst 0, 1) := by decide +kernel
theorem d_Row_clear_2 : decode b_Row_clear 2 = .ok (.putfield 9, 3) := by decide +kernel
theorem d_Row_clear_5 : decode b_Row_clear 5 = .ok (.return_, 1) := by decide +kernel
theorem d_Ear_take_0 : decode b_Ear_take 0 = .ok (.aload_n 0, 1) := by decide +kernel
theorem d_Ear_take_1 : decode b_Ear_take 1 = .ok (.getfield 25, 3) := by decide +kernel
theorem d_Ear_take_4 : decode b_Ear_take 4 = .ok (.tableswitch 97 0 5 #[40, 57, 64, 71, 77, 84], 40) := by decide +kernel
theorem d_Ear_take_44 : decode b_Ear_take 44 = .ok (.aload_n 0, 1) := by decide +kernel
theorem d_Ear_take_45 : decode b_Ear_take 45 = .ok (.iload_n 1, 1) := by decide +kernel
theorem d_Ear_take_46 : decode b_Ear_take 46 = .ok (.bipush 85, 2) := by decide +kernel
theorem d_Ear_take_48 : decode b_Ear_take 48 = .ok (.if_icmp .ne 7, 3) := by decide +kernel
theorem d_Ear_take_51 : decode b_Ear_take 51 = .ok (.iconst 1, 1) := by decide +kernel
theorem d_Ear_take_52 : decode b_Ear_take 52 = .ok (.goto 4, 3) := by decide +kernel
theorem d_Ear_take_55 : decode b_Ear_take 55 = .ok (.iconst 0, 1) := by decide +kernel
theorem d_Ear_take_56 : decode b_Ear_take 56 = .ok (.putfield 25, 3) := by decide +kernel
theorem d_Ear_take_59 : decode b_Ear_take 59 = .ok (.iconst 0, 1) := by decide +kernel
theorem d_Ear_take_60 : decode b_Ear_take 60 = .ok (.ireturn, 1) := by decide +kernel
theorem d_Ear_take_61 : decode b_Ear_take 61 = .ok (.aload_n 0, 1) := by decide +kernel
theorem d_Ear_take_62 : decode b_Ear_take 62 = .ok (.iload_n 1, 1) := by decide +kernel
theorem d_Ear_take_63 : decode b_Ear_take 63 = .ok (.invokevirtual 42, 3) := by decide +kernel
theorem d_Ear_take_66 : decode b_Ear_take 66 = .ok (.iconst 0, 1) := by decide +kernel
theorem d_Ear_take_67 : decode b_Ear_take 67 = .ok (.ireturn, 1) := by decide +kernel
theorem d_Ear_take_68 : decode b_Ear_take 68 = .ok (.aload_n 0, 1) := by decide +kernel
theorem d_Ear_take_69 : decode b_Ear_take 69 = .ok (.iload_n 1, 1) := by decide +kernel
theorem d_Ear_take_70 : decode b_Ear_take 70 = .ok (.invokevirtual 45, 3) := by decide +kernel
theorem d_Ear_take_73 : decode b_Ear_take 73 = .ok (.iconst 0, 1) := by decide +kernel
theorem d_Ear_take_74 : decode b_Ear_take 74 = .ok (.ireturn, 1) := by decide +kernel
theorem d_Ear_take_75 : decode b_Ear_take 75 = .ok (.aload_n 0, 1) := by decide +kernel
theorem d_Ear_take_76 : decode b_Ear_take 76 = .ok (.iload_n 1, 1) := by decide +kernel
theorem d_Ear_take_77 : decode b_Ear_take 77 = .ok (.invokevirtual 48, 3) := by decide +kernel
theorem d_Ear_take_80 : decode b_Ear_take 80 = .ok (.ireturn, 1) := by decide +kernel
theorem d_Ear_take_81 : decode b_Ear_take 81 = .ok (.aload_n 0, 1) := by decide +kernel
theorem d_Ear_take_82 : decode b_Ear_take 82 = .ok (.iload_n 1, 1) := by decide +kernel
theorem d_Ear_take_83 : decode b_Ear_take 83 = .ok (.invokevirtual 51, 3) := by decide +kernel
theorem d_Ear_take_86 : decode b_Ear_take 86 = .ok (.iconst 0, 1) := by decide +kernel
theorem d_Ear_take_87 : decode b_Ear_take 87 = .ok (.ireturn, 1) := by decide +kernel
theorem d_Ear_take_88 : decode b_Ear_take 88 = .ok (.aload_n 0, 1) := by decide +kernel
theorem d_Ear_take_89 : decode b_Ear_take 89 = .ok (.iload_n 1, 1) := by decide +kernel
theorem d_Ear_take_90 : decode b_Ear_take 90 = .ok (.putfield 32, 3) := by decide +kernel
theorem d_Ear_take_93 : decode b_Ear_take 93 = .ok (.aload_n 0, 1) := by decide +kernel
theorem d_Ear_take_94 : decode b_Ear_take 94 = .ok (.bipush 6, 2) := by decide +kernel
theorem d_Ear_take_96 : decode b_Ear_take 96 = .ok (.putfield 25, 3) := by decide +kernel
theorem d_Ear_take_99 : decode b_Ear_take 99 = .ok (.iconst 0, 1) := by decide +kernel
theorem d_Ear_take_100 : decode b_Ear_take 100 = .ok (.ireturn, 1) := by decide +kernel
theorem d_Ear_take_101 : decode b_Ear_take 101 = .ok (.aload_n 0, 1) := by decide +kernel
theorem d_Ear_take_102 : decode b_Ear_take 102 = .ok (.iload_n 1, 1) := by decide +kernel
theorem d_Ear_take_103 : decode b_Ear_take 103 = .ok (.invokevirtual 54, 3) := by decide +kernel
theorem d_Ear_take_106 : decode b_Ear_take 106 = .ok (.ireturn, 1) := by decide +kernel
theorem d_Ear_takeSecond_0 : decode b_Ear_takeSecond 0 = .ok (.iload_n 1, 1) := by decide +kernel
theorem d_Ear_takeSecond_1 : decode b_Ear_takeSecond 1 = .ok (.sipush 255, 3) := by decide +kernel
theorem d_Ear_takeSecond_4 : decode b_Ear_takeSecond 4 = .ok (.if_icmp .ne 32, 3) := by decide +kernel
theorem d_Ear_takeSecond_7 : decode b_Ear_takeSecond 7 = .ok (.aload_n 0, 1) := by decide +kernel
theorem d_Ear_takeSecond_8 : decode b_Ear_takeSecond 8 = .ok (.iconst 2, 1) := by decide +kernel
theorem d_Ear_takeSecond_9 : decode b_Ear_takeSecond 9 = .ok (.putfield 25, 3) := by decide +kernel
theorem d_Ear_takeSecond_12 : decode b_Ear_takeSecond 12 = .ok (.aload_n 0, 1) := by decide +kernel
theorem d_Ear_takeSecond_13 : decode b_Ear_takeSecond 13 = .ok (.getfield 16, 3) := by decide +kernel
theorem d_Ear_takeSecond_16 : decode b_Ear_takeSecond 16 = .ok (.invokevirtual 57, 3) := by decide +kernel
theorem d_Ear_takeSecond_19 : decode b_Ear_takeSecond 19 = .ok (.aload_n 0, 1) := by decide +kernel
theorem d_Ear_takeSecond_20 : decode b_Ear_takeSecond 20 = .ok (.getfield 22, 3) := by decide +kernel
theorem d_Ear_takeSecond_23 : decode b_Ear_takeSecond 23 = .ok (.invokevirtual 57, 3) := by decide +kernel
theorem d_Ear_takeSecond_26 : decode b_Ear_takeSecond 26 = .ok (.aload_n 0, 1) := by decide +kernel
theorem d_Ear_takeSecond_27 : decode b_Ear_takeSecond 27 = .ok (.sipush 255, 3) := by decide +kernel
theorem d_Ear_takeSecond_30 : decode b_Ear_takeSecond 30 = .ok (.putfield 29, 3) := by decide +kernel
theorem d_Ear_takeSecond_33 : decode b_Ear_takeSecond 33 = .ok (.goto 14, 3) := by decide +kernel
theorem d_Ear_takeSecond_36 : decode b_Ear_takeSecond 36 = .ok (.iload_n 1, 1) := by decide +kernel
theorem d_Ear_takeSecond_37 : decode b_Ear_takeSecond 37 = .ok (.bipush 85, 2) := by decide +kernel
theorem d_Ear_takeSecond_39 : decode b_Ear_takeSecond 39 = .ok (.if_icmp .eq 8, 3) := by decide +kernel
theorem d_Ear_takeSecond_42 : decode b_Ear_takeSecond 42 = .ok (.aload_n 0, 1) := by decide +kernel
theorem d_Ear_takeSecond_43 : decode b_Ear_takeSecond 43 = .ok (.iconst 0, 1) := by decide +kernel
theorem d_Ear_takeSecond_44 : decode b_Ear_takeSecond 44 = .ok (.putfield 25, 3) := by decide +kernel
theorem d_Ear_takeSecond_47 : decode b_Ear_takeSecond 47 = .ok (.return_, 1) := by decide +kernel
theorem d_Ear_takeHeader_0 : decode b_Ear_takeHeader 0 = .ok (.aload_n 0, 1) := by decide +kernel
theorem d_Ear_takeHeader_1 : decode b_Ear_takeHeader 1 = .ok (.getfield 16, 3) := by decide +kernel
theorem d_Ear_takeHeader_4 : decode b_Ear_takeHeader 4 = .ok (.iload_n 1, 1) := by decide +kernel
theorem d_Ear_takeHeader_5 : decode b_Ear_takeHeader 5 = .ok (.invokevirtual 60, 3) := by decide +kernel
theorem d_Ear_takeHeader_8 : decode b_Ear_takeHeader 8 = .ok (.aload_n 0, 1) := by decide +kernel
theorem d_Ear_takeHeader_9 : decode b_Ear_takeHeader 9 = .ok (.aload_n 0, 1) := by decide +kernel
theorem d_Ear_takeHeader_10 : decode b_Ear_takeHeader 10 = .ok (.getfield 29, 3) := by decide +kernel
theorem d_Ear_takeHeader_13 : decode b_Ear_takeHeader 13 = .ok (.iload_n 1, 1) := by decide +kernel
theorem d_Ear_takeHeader_14 : decode b_Ear_takeHeader 14 = .ok (.sipush 129, 3) := by decide +kernel
theorem d_Ear_takeHeader_17 : decode b_Ear_takeHeader 17 = .ok (.invokestatic 63, 3) := by decide +kernel
theorem d_Ear_takeHeader_20 : decode b_Ear_takeHeader 20 = .ok (.putfield 29, 3) := by decide +kernel
theorem d_Ear_takeHeader_23 : decode b_Ear_takeHeader 23 = .ok (.aload_n 0, 1) := by decide +kernel
theorem d_Ear_takeHeader_24 : decode b_Ear_takeHeader 24 = .ok (.getfield 16, 3) := by decide +kernel
theorem d_Ear_takeHeader_27 : decode b_Ear_takeHeader 27 = .ok (.invokevirtual 67, 3) := by decide +kernel
theorem d_Ear_takeHeader_30 : decode b_Ear_takeHeader 30 = .ok (.iconst 5, 1) := by decide +kernel
theorem d_Ear_takeHeader_31 : decode b_Ear_takeHeader 31 = .ok (.if_icmp .ne 8, 3) := by decide +kernel
theorem d_Ear_takeHeader_34 : decode b_Ear_takeHeader 34 = .ok (.aload_n 0, 1) := by decide +kernel
theorem d_Ear_takeHeader_35 : decode b_Ear_takeHeader 35 = .ok (.iconst 3, 1) := by decide +kernel
theorem d_Ear_takeHeader_36 : decode b_Ear_takeHeader 36 = .ok (.putfield 25, 3) := by decide +kernel
theorem d_Ear_takeHeader_39 : decode b_Ear_takeHeader 39 = .ok (.return_, 1) := by decide +kernel
theorem d_Row_put_0 : decode b_Row_put 0 = .ok (.aload_n 0, 1) := by decide +kernel
theorem d_Row_put_1 : decode b_Row_put 1 = .ok (.getfield 9, 3) := by decide +kernel
theorem d_Row_put_4 : decode b_Row_put 4 = .ok (.aload_n 0, 1) := by decide +kernel
theorem d_Row_put_5 : decode b_Row_put 5 = .ok (.getfield 15, 3) := by decide +kernel
theorem d_Row_put_8 : decode b_Row_put 8 = .ok (.arraylength, 1) := by decide +kernel
theorem d_Row_put_9 : decode b_Row_put 9 = .ok (.if_icmp .ge 23, 3) := by decide +kernel
theorem d_Row_put_12 : decode b_Row_put 12 = .ok (.aload_n 0, 1) := by decide +kernel
theorem d_Row_put_13 : decode b_Row_put 13 = .ok (.getfield 15, 3) := by decide +kernel
theorem d_Row_put_16 : decode b_Row_put 16 = .ok (.aload_n 0, 1) := by decide +kernel
theorem d_Row_put_17 : decode b_Row_put 17 = .ok (.getfield 9, 3) := by decide +kernel
theorem d_Row_put_20 : decode b_Row_put 20 = .ok (.iload_n 1, 1) := by decide +kernel
theorem d_Row_put_21 : decode b_Row_put 21 = .ok (.iastore, 1) := by decide +kernel
theorem d_Row_put_22 : decode b_Row_put 22 = .ok (.aload_n 0, 1) := by decide +kernel
theorem d_Row_put_23 : decode b_Row_put 23 = .ok (.dup, 1) := by decide +kernel
theorem d_Row_put_24 : decode b_Row_put 24 = .ok (.getfield 9, 3) := by decide +kernel
theorem d_Row_put_27 : decode b_Row_put 27 = .ok (.iconst 1, 1) := by decide +kernel
theorem d_Row_put_28 : decode b_Row_put 28 = .ok (.iadd, 1) := by decide +kernel
theorem d_Row_put_29 : decode b_Row_put 29 = .ok (.putfield 9, 3) := by decide +kernel
theorem d_Row_put_32 : decode b_Row_put 32 = .ok (.return_, 1) := by decide +kernel
theorem d_Chk_withByte_0 : decode b_Chk_withByte 0 = .ok (.iload_n 0, 1) := by decide +kernel
theorem d_Chk_withByte_1 : decode b_Chk_withByte 1 = .ok (.iload_n 1, 1) := by decide +kernel
theorem d_Chk_withByte_2 : decode b_Chk_withByte 2 = .ok (.ixor, 1) := by decide +kernel
theorem d_Chk_withByte_3 : decode b_Chk_withByte 3 = .ok (.istore_n 3, 1) := by decide +kernel
theorem d_Chk_withByte_4 : decode b_Chk_withByte 4 = .ok (.iconst 0, 1) := by decide +kernel
theorem d_Chk_withByte_5 : decode b_Chk_withByte 5 = .ok (.istore 4, 2) := by decide +kernel
theorem d_Chk_withByte_7 : decode b_Chk_withByte 7 = .ok (.iload 4, 2) := by decide +kernel
theorem d_Chk_withByte_9 : decode b_Chk_withByte 9 = .ok (.bipush 8, 2) := by decide +kernel
theorem d_Chk_withByte_11 : decode b_Chk_withByte 11 = .ok (.if_icmp .ge 28, 3) := by decide +kernel
theorem d_Chk_withByte_14 : decode b_Chk_withByte 14 = .ok (.iload_n 3, 1) := by decide +kernel
theorem d_Chk_withByte_15 : decode b_Chk_withByte 15 = .ok (.iconst 1, 1) := by decide +kernel
theorem d_Chk_withByte_16 : decode b_Chk_withByte 16 = .ok (.iand, 1) := by decide +kernel
theorem d_Chk_withByte_17 : decode b_Chk_withByte 17 = .ok (.iconst 1, 1) := by decide +kernel
theorem d_Chk_withByte_18 : decode b_Chk_withByte 18 = .ok (.if_icmp .ne 11, 3) := by decide +kernel
theorem d_Chk_withByte_21 : decode b_Chk_withByte 21 = .ok (.iload_n 3, 1) := by decide +kernel
theorem d_Chk_withByte_22 : decode b_Chk_withByte 22 = .ok (.iconst 1, 1) := by decide +kernel
theorem d_Chk_withByte_23 : decode b_Chk_withByte 23 = .ok (.iushr, 1) := by decide +kernel
theorem d_Chk_withByte_24 : decode b_Chk_withByte 24 = .ok (.iload_n 2, 1) := by decide +kernel
theorem d_Chk_withByte_25 : decode b_Chk_withByte 25 = .ok (.ixor, 1) := by decide +kernel
theorem d_Chk_withByte_26 : decode b_Chk_withByte 26 = .ok (.goto 6, 3) := by decide +kernel
theorem d_Chk_withByte_29 : decode b_Chk_withByte 29 = .ok (.iload_n 3, 1) := by decide +kernel
theorem d_Chk_withByte_30 : decode b_Chk_withByte 30 = .ok (.iconst 1, 1) := by decide +kernel
theorem d_Chk_withByte_31 : decode b_Chk_withByte 31 = .ok (.iushr, 1) := by decide +kernel
theorem d_Chk_withByte_32 : decode b_Chk_withByte 32 = .ok (.istore_n 3, 1) := by decide +kernel
theorem d_Chk_withByte_33 : decode b_Chk_withByte 33 = .ok (.iinc 4 1, 3) := by decide +kernel
theorem d_Chk_withByte_36 : decode b_Chk_withByte 36 = .ok (.goto (-29), 3) := by decide +kernel
theorem d_Chk_withByte_39 : decode b_Chk_withByte 39 = .ok (.iload_n 3, 1) := by decide +kernel
theorem d_Chk_withByte_40 : decode b_Chk_withByte 40 = .ok (.ireturn, 1) := by decide +kernel
theorem d_Row_size_0 : decode b_Row_size 0 = .ok (.aload_n 0, 1) := by decide +kernel
theorem d_Row_size_1 : decode b_Row_size 1 = .ok (.getfield 9, 3) := by decide +kernel
theorem d_Row_size_4 : decode b_Row_size 4 = .ok (.ireturn, 1) := by decide +kernel
theorem d_Ear_takeHeaderCheck_0 : decode b_Ear_takeHeaderCheck 0 = .ok (.aload_n 0, 1) := by decide +kernel
theorem d_Ear_takeHeaderCheck_1 : decode b_Ear_takeHeaderCheck 1 = .ok (.iconst 0, 1) := by decide +kernel
theorem d_Ear_takeHeaderCheck_2 : decode b_Ear_takeHeaderCheck 2 = .ok (.putfield 25, 3) := by decide +kernel
theorem d_Ear_takeHeaderCheck_5 : decode b_Ear_takeHeaderCheck 5 = .ok (.iload_n 1, 1) := by decide +kernel
theorem d_Ear_takeHeaderCheck_6 : decode b_Ear_takeHeaderCheck 6 = .ok (.sipush 255, 3) := by decide +kernel
theorem d_Ear_takeHeaderCheck_9 : decode b_Ear_takeHeaderCheck 9 = .ok (.aload_n 0, 1) := by decide +kernel
theorem d_Ear_takeHeaderCheck_10 : decode b_Ear_takeHeaderCheck 10 = .ok (.getfield 29, 3) := by decide +kernel
theorem d_Ear_takeHeaderCheck_13 : decode b_Ear_takeHeaderCheck 13 = .ok (.isub, 1) := by decide +kernel
theorem d_Ear_takeHeaderCheck_14 : decode b_Ear_takeHeaderCheck 14 = .ok (.if_icmp .ne 12, 3) := by decide +kernel
theorem d_Ear_takeHeaderCheck_17 : decode b_Ear_takeHeaderCheck 17 = .ok (.aload_n 0, 1) := by decide +kernel
theorem d_Ear_takeHeaderCheck_18 : decode b_Ear_takeHeaderCheck 18 = .ok (.invokevirtual 71, 3) := by decide +kernel
theorem d_Ear_takeHeaderCheck_21 : decode b_Ear_takeHeaderCheck 21 = .ok (.bipush 40, 2) := by decide +kernel
theorem d_Ear_takeHeaderCheck_23 : decode b_Ear_takeHeaderCheck 23 = .ok (.if_icmp .le 5, 3) := by decide +kernel
theorem d_Ear_takeHeaderCheck_26 : decode b_Ear_takeHeaderCheck 26 = .ok (.iconst 2, 1) := by decide +kernel
theorem d_Ear_takeHeaderCheck_27 : decode b_Ear_takeHeaderCheck 27 = .ok (.ireturn, 1) := by decide +kernel
theorem d_Ear_takeHeaderCheck_28 : decode b_Ear_takeHeaderCheck 28 = .ok (.aload_n 0, 1) := by decide +kernel
theorem d_Ear_takeHeaderCheck_29 : decode b_Ear_takeHeaderCheck 29 = .ok (.invokevirtual 71, 3) := by decide +kernel
theorem d_Ear_takeHeaderCheck_32 : decode b_Ear_takeHeaderCheck 32 = .ok (.ifCond .ne 8, 3) := by decide +kernel
theorem d_Ear_takeHeaderCheck_35 : decode b_Ear_takeHeaderCheck 35 = .ok (.aload_n 0, 1) := by decide +kernel
theorem d_Ear_takeHeaderCheck_36 : decode b_Ear_takeHeaderCheck 36 = .ok (.invokevirtual 74, 3) := by decide +kernel
theorem d_Ear_takeHeaderCheck_39 : decode b_Ear_takeHeaderCheck 39 = .ok (.ireturn, 1) := by decide +kernel
theorem d_Ear_takeHeaderCheck_40 : decode b_Ear_takeHeaderCheck 40 = .ok (.aload_n 0, 1) := by decide +kernel
theorem d_Ear_takeHeaderCheck_41 : decode b_Ear_takeHeaderCheck 41 = .ok (.iconst 4, 1) := by decide +kernel
theorem d_Ear_takeHeaderCheck_42 : decode b_Ear_takeHeaderCheck 42 = .ok (.putfield 25, 3) := by decide +kernel
theorem d_Ear_takeHeaderCheck_45 : decode b_Ear_takeHeaderCheck 45 = .ok (.aload_n 0, 1) := by decide +kernel
theorem d_Ear_takeHeaderCheck_46 : decode b_Ear_takeHeaderCheck 46 = .ok (.ldc 77, 2) := by decide +kernel
theorem d_Ear_takeHeaderCheck_48 : decode b_Ear_takeHeaderCheck 48 = .ok (.putfield 29, 3) := by decide +kernel
theorem d_Ear_takeHeaderCheck_51 : decode b_Ear_takeHeaderCheck 51 = .ok (.iconst 0, 1) := by decide +kernel
theorem d_Ear_takeHeaderCheck_52 : decode b_Ear_takeHeaderCheck 52 = .ok (.ireturn, 1) := by decide +kernel
theorem d_Ear_dataBytes_0 : decode b_Ear_dataBytes 0 = .ok (.sipush 256, 3) := by decide +kernel
theorem d_Ear_dataBytes_3 : decode b_Ear_dataBytes 3 = .ok (.aload_n 0, 1) := by decide +kernel
theorem d_Ear_dataBytes_4 : decode b_Ear_dataBytes 4 = .ok (.getfield 16, 3) := by decide +kernel
theorem d_Ear_dataBytes_7 : decode b_Ear_dataBytes 7 = .ok (.iconst 3, 1) := by decide +kernel
theorem d_Ear_dataBytes_8 : decode b_Ear_dataBytes 8 = .ok (.invokevirtual 38, 3) := by decide +kernel
theorem d_Ear_dataBytes_11 : decode b_Ear_dataBytes 11 = .ok (.imul, 1) := by decide +kernel
theorem d_Ear_dataBytes_12 : decode b_Ear_dataBytes 12 = .ok (.aload_n 0, 1) := by decide +kernel
theorem d_Ear_dataBytes_13 : decode b_Ear_dataBytes 13 = .ok (.getfield 16, 3) := by decide +kernel
theorem d_Ear_dataBytes_16 : decode b_Ear_dataBytes 16 = .ok (.iconst 4, 1) := by decide +kernel
theorem d_Ear_dataBytes_17 : decode b_Ear_dataBytes 17 = .ok (.invokevirtual 38, 3) := by decide +kernel
theorem d_Ear_dataBytes_20 : decode b_Ear_dataBytes 20 = .ok (.iadd, 1) := by decide +kernel
theorem d_Ear_dataBytes_21 : decode b_Ear_dataBytes 21 = .ok (.ireturn, 1) := by decide +kernel
theorem d_Row_at_0 : decode b_Row_at 0 = .ok (.iload_n 1, 1) := by decide +kernel
theorem d_Row_at_1 : decode b_Row_at 1 = .ok (.ifCond .lt 20, 3) := by decide +kernel
theorem d_Row_at_4 : decode b_Row_at 4 = .ok (.iload_n 1, 1) := by decide +kernel
theorem d_Row_at_5 : decode b_Row_at 5 = .ok (.aload_n 0, 1) := by decide +kernel
theorem d_Row_at_6 : decode b_Row_at 6 = .ok (.getfield 9, 3) := by decide +kernel
theorem d_Row_at_9 : decode b_Row_at 9 = .ok (.if_icmp .ge 12, 3) := by decide +kernel
theorem d_Row_at_12 : decode b_Row_at 12 = .ok (.aload_n 0, 1) := by decide +kernel
theorem d_Row_at_13 : decode b_Row_at 13 = .ok (.getfield 15, 3) := by decide +kernel
theorem d_Row_at_16 : decode b_Row_at 16 = .ok (.iload_n 1, 1) := by decide +kernel
theorem d_Row_at_17 : decode b_Row_at 17 = .ok (.iaload, 1) := by decide +kernel
theorem d_Row_at_18 : decode b_Row_at 18 = .ok (.goto 4, 3) := by decide +kernel
theorem d_Row_at_21 : decode b_Row_at 21 = .ok (.iconst (-1), 1) := by decide +kernel
theorem d_Row_at_22 : decode b_Row_at 22 = .ok (.ireturn, 1) := by decide +kernel
theorem d_Ear_ended_0 : decode b_Ear_ended 0 = .ok (.aload_n 0, 1) := by decide +kernel
theorem d_Ear_ended_1 : decode b_Ear_ended 1 = .ok (.invokevirtual 79, 3) := by decide +kernel
theorem d_Ear_ended_4 : decode b_Ear_ended 4 = .ok (.aload_n 0, 1) := by decide +kernel
theorem d_Ear_ended_5 : decode b_Ear_ended 5 = .ok (.getfield 35, 3) := by decide +kernel
theorem d_Ear_ended_8 : decode b_Ear_ended 8 = .ok (.if_icmp .eq 13, 3) := by decide +kernel
theorem d_Ear_ended_11 : decode b_Ear_ended 11 = .ok (.aload_n 0, 1) := by decide +kernel
theorem d_Ear_ended_12 : decode b_Ear_ended 12 = .ok (.invokevirtual 79, 3) := by decide +kernel
theorem d_Ear_ended_15 : decode b_Ear_ended 15 = .ok (.sipush 255, 3) := by decide +kernel
theorem d_Ear_ended_18 : decode b_Ear_ended 18 = .ok (.if_icmp .ne 7, 3) := by decide +kernel
theorem d_Ear_ended_21 : decode b_Ear_ended 21 = .ok (.iconst 1, 1) := by decide +kernel
theorem d_Ear_ended_22 : decode b_Ear_ended 22 = .ok (.goto 4, 3) := by decide +kernel
theorem d_Ear_ended_25 : decode b_Ear_ended 25 = .ok (.iconst 0, 1) := by decide +kernel
theorem d_Ear_ended_26 : decode b_Ear_ended 26 = .ok (.ireturn, 1) := by decide +kernel
theorem d_Ear_to_0 : decode b_Ear_to 0 = .ok (.aload_n 0, 1) := by decide +kernel
theorem d_Ear_to_1 : decode b_Ear_to 1 = .ok (.getfield 16, 3) := by decide +kernel
theorem d_Ear_to_4 : decode b_Ear_to 4 = .ok (.iconst 1, 1) := by decide +kernel
theorem d_Ear_to_5 : decode b_Ear_to 5 = .ok (.invokevirtual 38, 3) := by decide +kernel
theorem d_Ear_to_8 : decode b_Ear_to 8 = .ok (.ireturn, 1) := by decide +kernel
theorem d_Ear_takeData_0 : decode b_Ear_takeData 0 = .ok (.aload_n 0, 1) := by decide +kernel
theorem d_Ear_takeData_1 : decode b_Ear_takeData 1 = .ok (.getfield 22, 3) := by decide +kernel
theorem d_Ear_takeData_4 : decode b_Ear_takeData 4 = .ok (.iload_n 1, 1) := by decide +kernel
theorem d_Ear_takeData_5 : decode b_Ear_takeData 5 = .ok (.invokevirtual 60, 3) := by decide +kernel
theorem d_Ear_takeData_8 : decode b_Ear_takeData 8 = .ok (.aload_n 0, 1) := by decide +kernel
theorem d_Ear_takeData_9 : decode b_Ear_takeData 9 = .ok (.aload_n 0, 1) := by decide +kernel
theorem d_Ear_takeData_10 : decode b_Ear_takeData 10 = .ok (.getfield 29, 3) := by decide +kernel
theorem d_Ear_takeData_13 : decode b_Ear_takeData 13 = .ok (.iload_n 1, 1) := by decide +kernel
theorem d_Ear_takeData_14 : decode b_Ear_takeData 14 = .ok (.ldc 78, 2) := by decide +kernel
theorem d_Ear_takeData_16 : decode b_Ear_takeData 16 = .ok (.invokestatic 63, 3) := by decide +kernel
theorem d_Ear_takeData_19 : decode b_Ear_takeData 19 = .ok (.putfield 29, 3) := by decide +kernel
theorem d_Ear_takeData_22 : decode b_Ear_takeData 22 = .ok (.aload_n 0, 1) := by decide +kernel
theorem d_Ear_takeData_23 : decode b_Ear_takeData 23 = .ok (.getfield 22, 3) := by decide +kernel
theorem d_Ear_takeData_26 : decode b_Ear_takeData 26 = .ok (.invokevirtual 67, 3) := by decide +kernel
theorem d_Ear_takeData_29 : decode b_Ear_takeData 29 = .ok (.aload_n 0, 1) := by decide +kernel
theorem d_Ear_takeData_30 : decode b_Ear_takeData 30 = .ok (.invokevirtual 71, 3) := by decide +kernel
theorem d_Ear_takeData_33 : decode b_Ear_takeData 33 = .ok (.if_icmp .lt 8, 3) := by decide +kernel
theorem d_Ear_takeData_36 : decode b_Ear_takeData 36 = .ok (.aload_n 0, 1) := by decide +kernel
theorem d_Ear_takeData_37 : decode b_Ear_takeData 37 = .ok (.iconst 5, 1) := by decide +kernel
theorem d_Ear_takeData_38 : decode b_Ear_takeData 38 = .ok (.putfield 25, 3) := by decide +kernel
theorem d_Ear_takeData_41 : decode b_Ear_takeData 41 = .ok (.return_, 1) := by decide +kernel
theorem d_Ear_takeHighCheck_0 : decode b_Ear_takeHighCheck 0 = .ok (.aload_n 0, 1) := by decide +kernel
theorem d_Ear_takeHighCheck_1 : decode b_Ear_takeHighCheck 1 = .ok (.iconst 0, 1) := by decide +kernel
theorem d_Ear_takeHighCheck_2 : decode b_Ear_takeHighCheck 2 = .ok (.putfield 25, 3) := by decide +kernel
theorem d_Ear_takeHighCheck_5 : decode b_Ear_takeHighCheck 5 = .ok (.aload_n 0, 1) := by decide +kernel
theorem d_Ear_takeHighCheck_6 : decode b_Ear_takeHighCheck 6 = .ok (.getfield 32, 3) := by decide +kernel
theorem d_Ear_takeHighCheck_9 : decode b_Ear_takeHighCheck 9 = .ok (.sipush 256, 3) := by decide +kernel
theorem d_Ear_takeHighCheck_12 : decode b_Ear_takeHighCheck 12 = .ok (.iload_n 1, 1) := by decide +kernel
theorem d_Ear_takeHighCheck_13 : decode b_Ear_takeHighCheck 13 = .ok (.imul, 1) := by decide +kernel
theorem d_Ear_takeHighCheck_14 : decode b_Ear_takeHighCheck 14 = .ok (.iadd, 1) := by decide +kernel
theorem d_Ear_takeHighCheck_15 : decode b_Ear_takeHighCheck 15 = .ok (.ldc 77, 2) := by decide +kernel
theorem d_Ear_takeHighCheck_17 : decode b_Ear_takeHighCheck 17 = .ok (.aload_n 0, 1) := by decide +kernel
theorem d_Ear_takeHighCheck_18 : decode b_Ear_takeHighCheck 18 = .ok (.getfield 29, 3) := by decide +kernel
theorem d_Ear_takeHighCheck_21 : decode b_Ear_takeHighCheck 21 = .ok (.isub, 1) := by decide +kernel
theorem d_Ear_takeHighCheck_22 : decode b_Ear_takeHighCheck 22 = .ok (.if_icmp .ne 10, 3) := by decide +kernel
theorem d_Ear_takeHighCheck_25 : decode b_Ear_takeHighCheck 25 = .ok (.aload_n 0, 1) := by decide +kernel
theorem d_Ear_takeHighCheck_26 : decode b_Ear_takeHighCheck 26 = .ok (.invokevirtual 74, 3) := by decide +kernel
theorem d_Ear_takeHighCheck_29 : decode b_Ear_takeHighCheck 29 = .ok (.goto 4, 3) := by decide +kernel
theorem d_Ear_takeHighCheck_32 : decode b_Ear_takeHighCheck 32 = .ok (.iconst 2, 1) := by decide +kernel
theorem d_Ear_takeHighCheck_33 : decode b_Ear_takeHighCheck 33 = .ok (.ireturn, 1) := by decide +kernel
theorem d_Ear_type_0 : decode b_Ear_type 0 = .ok (.aload_n 0, 1) := by decide +kernel
theorem d_Ear_type_1 : decode b_Ear_type 1 = .ok (.getfield 16, 3) := by decide +kernel
theorem d_Ear_type_4 : decode b_Ear_type 4 = .ok (.iconst 0, 1) := by decide +kernel
theorem d_Ear_type_5 : decode b_Ear_type 5 = .ok (.invokevirtual 38, 3) := by decide +kernel
theorem d_Ear_type_8 : decode b_Ear_type 8 = .ok (.ireturn, 1) := by decide +kernel
theorem d_Ear_from_0 : decode b_Ear_from 0 = .ok (.aload_n 0, 1) := by decide +kernel
theorem d_Ear_from_1 : decode b_Ear_from 1 = .ok (.getfield 16, 3) := by decide +kernel
theorem d_Ear_from_4 : decode b_Ear_from 4 = .ok (.iconst 2, 1) := by decide +kernel
theorem d_Ear_from_5 : decode b_Ear_from 5 = .ok (.invokevirtual 38, 3) := by decide +kernel
theorem d_Ear_from_8 : decode b_Ear_from 8 = .ok (.ireturn, 1) := by decide +kernel
theorem d_Chk_ofHeader_0 : decode b_Chk_ofHeader 0 = .ok (.sipush 255, 3) := by decide +kernel
theorem d_Chk_ofHeader_3 : decode b_Chk_ofHeader 3 = .ok (.istore_n 2, 1) := by decide +kernel
theorem d_Chk_ofHeader_4 : decode b_Chk_ofHeader 4 = .ok (.iconst 0, 1) := by decide +kernel
theorem d_Chk_ofHeader_5 : decode b_Chk_ofHeader 5 = .ok (.istore_n 3, 1) := by decide +kernel
theorem d_Chk_ofHeader_6 : decode b_Chk_ofHeader 6 = .ok (.iload_n 3, 1) := by decide +kernel
theorem d_Chk_ofHeader_7 : decode b_Chk_ofHeader 7 = .ok (.iconst 5, 1) := by decide +kernel
theorem d_Chk_ofHeader_8 : decode b_Chk_ofHeader 8 = .ok (.if_icmp .ge 24, 3) := by decide +kernel
theorem d_Chk_ofHeader_11 : decode b_Chk_ofHeader 11 = .ok (.iload_n 2, 1) := by decide +kernel
theorem d_Chk_ofHeader_12 : decode b_Chk_ofHeader 12 = .ok (.aload_n 0, 1) := by decide +kernel
theorem d_Chk_ofHeader_13 : decode b_Chk_ofHeader 13 = .ok (.iload_n 1, 1) := by decide +kernel
theorem d_Chk_ofHeader_14 : decode b_Chk_ofHeader 14 = .ok (.iload_n 3, 1) := by decide +kernel
theorem d_Chk_ofHeader_15 : decode b_Chk_ofHeader 15 = .ok (.iadd, 1) := by decide +kernel
theorem d_Chk_ofHeader_16 : decode b_Chk_ofHeader 16 = .ok (.invokevirtual 9, 3) := by decide +kernel
theorem d_Chk_ofHeader_19 : decode b_Chk_ofHeader 19 = .ok (.sipush 129, 3) := by decide +kernel
theorem d_Chk_ofHeader_22 : decode b_Chk_ofHeader 22 = .ok (.invokestatic 15, 3) := by decide +kernel
theorem d_Chk_ofHeader_25 : decode b_Chk_ofHeader 25 = .ok (.istore_n 2, 1) := by decide +kernel
theorem d_Chk_ofHeader_26 : decode b_Chk_ofHeader 26 = .ok (.iinc 3 1, 3) := by decide +kernel
theorem d_Chk_ofHeader_29 : decode b_Chk_ofHeader 29 = .ok (.goto (-23), 3) := by decide +kernel
theorem d_Chk_ofHeader_32 : decode b_Chk_ofHeader 32 = .ok (.sipush 255, 3) := by decide +kernel
theorem d_Chk_ofHeader_35 : decode b_Chk_ofHeader 35 = .ok (.iload_n 2, 1) := by decide +kernel
theorem d_Chk_ofHeader_36 : decode b_Chk_ofHeader 36 = .ok (.isub, 1) := by decide +kernel
theorem d_Chk_ofHeader_37 : decode b_Chk_ofHeader 37 = .ok (.ireturn, 1) := by decide +kernel
theorem d_Row_putAll_0 : decode b_Row_putAll 0 = .ok (.iconst 0, 1) := by decide +kernel
theorem d_Row_putAll_1 : decode b_Row_putAll 1 = .ok (.istore_n 2, 1) := by decide +kernel
theorem d_Row_putAll_2 : decode b_Row_putAll 2 = .ok (.iload_n 2, 1) := by decide +kernel
theorem d_Row_putAll_3 : decode b_Row_putAll 3 = .ok (.aload_n 1, 1) := by decide +kernel
theorem d_Row_putAll_4 : decode b_Row_putAll 4 = .ok (.getfield 9, 3) := by decide +kernel
theorem d_Row_putAll_7 : decode b_Row_putAll 7 = .ok (.if_icmp .ge 19, 3) := by decide +kernel
theorem d_Row_putAll_10 : decode b_Row_putAll 10 = .ok (.aload_n 0, 1) := by decide +kernel
theorem d_Row_putAll_11 : decode b_Row_putAll 11 = .ok (.aload_n 1, 1) := by decide +kernel
theorem d_Row_putAll_12 : decode b_Row_putAll 12 = .ok (.getfield 15, 3) := by decide +kernel
theorem d_Row_putAll_15 : decode b_Row_putAll 15 = .ok (.iload_n 2, 1) := by decide +kernel
theorem d_Row_putAll_16 : decode b_Row_putAll 16 = .ok (.iaload, 1) := by decide +kernel
theorem d_Row_putAll_17 : decode b_Row_putAll 17 = .ok (.invokevirtual 19, 3) := by decide +kernel
theorem d_Row_putAll_20 : decode b_Row_putAll 20 = .ok (.iinc 2 1, 3) := by decide +kernel
theorem d_Row_putAll_23 : decode b_Row_putAll 23 = .ok (.goto (-21), 3) := by decide +kernel
theorem d_Row_putAll_26 : decode b_Row_putAll 26 = .ok (.return_, 1) := by decide +kernel
theorem d_Chk_ofData_0 : decode b_Chk_ofData 0 = .ok (.ldc 19, 2) := by decide +kernel
theorem d_Chk_ofData_2 : decode b_Chk_ofData 2 = .ok (.istore_n 1, 1) := by decide +kernel
theorem d_Chk_ofData_3 : decode b_Chk_ofData 3 = .ok (.iconst 0, 1) := by decide +kernel
theorem d_Chk_ofData_4 : decode b_Chk_ofData 4 = .ok (.istore_n 2, 1) := by decide +kernel
theorem d_Chk_ofData_5 : decode b_Chk_ofData 5 = .ok (.iload_n 2, 1) := by decide +kernel
theorem d_Chk_ofData_6 : decode b_Chk_ofData 6 = .ok (.aload_n 0, 1) := by decide +kernel
theorem d_Chk_ofData_7 : decode b_Chk_ofData 7 = .ok (.invokevirtual 20, 3) := by decide +kernel
theorem d_Chk_ofData_10 : decode b_Chk_ofData 10 = .ok (.if_icmp .ge 21, 3) := by decide +kernel
theorem d_Chk_ofData_13 : decode b_Chk_ofData 13 = .ok (.iload_n 1, 1) := by decide +kernel
theorem d_Chk_ofData_14 : decode b_Chk_ofData 14 = .ok (.aload_n 0, 1) := by decide +kernel
theorem d_Chk_ofData_15 : decode b_Chk_ofData 15 = .ok (.iload_n 2, 1) := by decide +kernel
theorem d_Chk_ofData_16 : decode b_Chk_ofData 16 = .ok (.invokevirtual 9, 3) := by decide +kernel
theorem d_Chk_ofData_19 : decode b_Chk_ofData 19 = .ok (.ldc 24, 2) := by decide +kernel
theorem d_Chk_ofData_21 : decode b_Chk_ofData 21 = .ok (.invokestatic 15, 3) := by decide +kernel
theorem d_Chk_ofData_24 : decode b_Chk_ofData 24 = .ok (.istore_n 1, 1) := by decide +kernel
theorem d_Chk_ofData_25 : decode b_Chk_ofData 25 = .ok (.iinc 2 1, 3) := by decide +kernel
theorem d_Chk_ofData_28 : decode b_Chk_ofData 28 = .ok (.goto (-23), 3) := by decide +kernel
theorem d_Chk_ofData_31 : decode b_Chk_ofData 31 = .ok (.ldc 19, 2) := by decide +kernel
theorem d_Chk_ofData_33 : decode b_Chk_ofData 33 = .ok (.iload_n 1, 1) := by decide +kernel
theorem d_Chk_ofData_34 : decode b_Chk_ofData 34 = .ok (.isub, 1) := by decide +kernel
theorem d_Chk_ofData_35 : decode b_Chk_ofData 35 = .ok (.ireturn, 1) := by decide +kernel
theorem d_Ear_data_0 : decode b_Ear_data 0 = .ok (.aload_n 0, 1) := by decide +kernel
theorem d_Ear_data_1 : decode b_Ear_data 1 = .ok (.getfield 22, 3) := by decide +kernel
theorem d_Ear_data_4 : decode b_Ear_data 4 = .ok (.areturn, 1) := by decide +kernel
theorem d_Thing_reference_0 : decode b_Thing_reference 0 = .ok (.aload_n 0, 1) := by decide +kernel
theorem d_Thing_reference_1 : decode b_Thing_reference 1 = .ok (.getfield 20, 3) := by decide +kernel
theorem d_Thing_reference_4 : decode b_Thing_reference 4 = .ok (.ireturn, 1) := by decide +kernel
theorem d_Thing_isBinary_0 : decode b_Thing_isBinary 0 = .ok (.aload_n 0, 1) := by decide +kernel
theorem d_Thing_isBinary_1 : decode b_Thing_isBinary 1 = .ok (.getfield 24, 3) := by decide +kernel
theorem d_Thing_isBinary_4 : decode b_Thing_isBinary 4 = .ok (.ireturn, 1) := by decide +kernel
theorem d_Thing_takes_0 : decode b_Thing_takes 0 = .ok (.aload_n 0, 1) := by decide +kernel
theorem d_Thing_takes_1 : decode b_Thing_takes 1 = .ok (.getfield 24, 3) := by decide +kernel
theorem d_Thing_takes_4 : decode b_Thing_takes 4 = .ok (.ifCond .eq 12, 3) := by decide +kernel
theorem d_Thing_takes_7 : decode b_Thing_takes 7 = .ok (.iload_n 1, 1) := by decide +kernel
theorem d_Thing_takes_8 : decode b_Thing_takes 8 = .ok (.ifCond .eq 8, 3) := by decide +kernel
theorem d_Thing_takes_11 : decode b_Thing_takes 11 = .ok (.iload_n 1, 1) := by decide +kernel
theorem d_Thing_takes_12 : decode b_Thing_takes 12 = .ok (.iconst 1, 1) := by decide +kernel
theorem d_Thing_takes_13 : decode b_Thing_takes 13 = .ok (.if_icmp .ne 7, 3) := by decide +kernel
theorem d_Thing_takes_16 : decode b_Thing_takes 16 = .ok (.iconst 1, 1) := by decide +kernel
theorem d_Thing_takes_17 : decode b_Thing_takes 17 = .ok (.goto 4, 3) := by decide +kernel
theorem d_Thing_takes_20 : decode b_Thing_takes 20 = .ok (.iconst 0, 1) := by decide +kernel
theorem d_Thing_takes_21 : decode b_Thing_takes 21 = .ok (.ireturn, 1) := by decide +kernel
theorem d_Thing_takeAway_0 : decode b_Thing_takeAway 0 = .ok (.iload_n 1, 1) := by decide +kernel
theorem d_Thing_takeAway_1 : decode b_Thing_takeAway 1 = .ok (.iconst 1, 1) := by decide +kernel
theorem d_Thing_takeAway_2 : decode b_Thing_takeAway 2 = .ok (.if_icmp .lt 9, 3) := by decide +kernel
theorem d_Thing_takeAway_5 : decode b_Thing_takeAway 5 = .ok (.iload_n 1, 1) := by decide +kernel
theorem d_Thing_takeAway_6 : decode b_Thing_takeAway 6 = .ok (.bipush 16, 2) := by decide +kernel
theorem d_Thing_takeAway_8 : decode b_Thing_takeAway 8 = .ok (.if_icmp .le 5, 3) := by decide +kernel
theorem d_Thing_takeAway_11 : decode b_Thing_takeAway 11 = .ok (.iconst 0, 1) := by decide +kernel
theorem d_Thing_takeAway_12 : decode b_Thing_takeAway 12 = .ok (.ireturn, 1) := by decide +kernel
theorem d_Thing_takeAway_13 : decode b_Thing_takeAway 13 = .ok (.aload_n 0, 1) := by decide +kernel
theorem d_Thing_takeAway_14 : decode b_Thing_takeAway 14 = .ok (.getfield 15, 3) := by decide +kernel
theorem d_Thing_takeAway_17 : decode b_Thing_takeAway 17 = .ok (.iload_n 1, 1) := by decide +kernel
theorem d_Thing_takeAway_18 : decode b_Thing_takeAway 18 = .ok (.iconst 0, 1) := by decide +kernel
theorem d_Thing_takeAway_19 : decode b_Thing_takeAway 19 = .ok (.bastore, 1) := by decide +kernel
theorem d_Thing_takeAway_20 : decode b_Thing_takeAway 20 = .ok (.iconst 1, 1) := by decide +kernel
theorem d_Thing_takeAway_21 : decode b_Thing_takeAway 21 = .ok (.ireturn, 1) := by decide +kernel
theorem d_Thing_give_0 : decode b_Thing_give 0 = .ok (.iload_n 1, 1) := by decide +kernel
theorem d_Thing_give_1 : decode b_Thing_give 1 = .ok (.ifCond .lt 17, 3) := by decide +kernel
theorem d_Thing_give_4 : decode b_Thing_give 4 = .ok (.iload_n 1, 1) := by decide +kernel
theorem d_Thing_give_5 : decode b_Thing_give 5 = .ok (.bipush 16, 2) := by decide +kernel
theorem d_Thing_give_7 : decode b_Thing_give 7 = .ok (.if_icmp .gt 11, 3) := by decide +kernel
theorem d_Thing_give_10 : decode b_Thing_give 10 = .ok (.aload_n 0, 1) := by decide +kernel
theorem d_Thing_give_11 : decode b_Thing_give 11 = .ok (.iload_n 2, 1) := by decide +kernel
theorem d_Thing_give_12 : decode b_Thing_give 12 = .ok (.invokevirtual 28, 3) := by decide +kernel
theorem d_Thing_give_15 : decode b_Thing_give 15 = .ok (.ifCond .ne 5, 3) := by decide +kernel
theorem d_Thing_give_18 : decode b_Thing_give 18 = .ok (.iconst 0, 1) := by decide +kernel
theorem d_Thing_give_19 : decode b_Thing_give 19 = .ok (.ireturn, 1) := by decide +kernel
theorem d_Thing_give_20 : decode b_Thing_give 20 = .ok (.aload_n 0, 1) := by decide +kernel
theorem d_Thing_give_21 : decode b_Thing_give 21 = .ok (.getfield 9, 3) := by decide +kernel
theorem d_Thing_give_24 : decode b_Thing_give 24 = .ok (.iload_n 1, 1) := by decide +kernel
theorem d_Thing_give_25 : decode b_Thing_give 25 = .ok (.iload_n 2, 1) := by decide +kernel
theorem d_Thing_give_26 : decode b_Thing_give 26 = .ok (.iastore, 1) := by decide +kernel
theorem d_Thing_give_27 : decode b_Thing_give 27 = .ok (.aload_n 0, 1) := by decide +kernel
theorem d_Thing_give_28 : decode b_Thing_give 28 = .ok (.getfield 15, 3) := by decide +kernel
theorem d_Thing_give_31 : decode b_Thing_give 31 = .ok (.iload_n 1, 1) := by decide +kernel
theorem d_Thing_give_32 : decode b_Thing_give 32 = .ok (.iconst 1, 1) := by decide +kernel
theorem d_Thing_give_33 : decode b_Thing_give 33 = .ok (.bastore, 1) := by decide +kernel
theorem d_Thing_give_34 : decode b_Thing_give 34 = .ok (.iconst 1, 1) := by decide +kernel
theorem d_Thing_give_35 : decode b_Thing_give 35 = .ok (.ireturn, 1) := by decide +kernel
theorem d_Row_putInt_0 : decode b_Row_putInt 0 = .ok (.aload_n 0, 1) := by decide +kernel
theorem d_Row_putInt_1 : decode b_Row_putInt 1 = .ok (.iload_n 1, 1) := by decide +kernel
theorem d_Row_putInt_2 : decode b_Row_putInt 2 = .ok (.bipush 24, 2) := by decide +kernel
theorem d_Row_putInt_4 : decode b_Row_putInt 4 = .ok (.iushr, 1) := by decide +kernel
theorem d_Row_putInt_5 : decode b_Row_putInt 5 = .ok (.invokevirtual 19, 3) := by decide +kernel
theorem d_Row_putInt_8 : decode b_Row_putInt 8 = .ok (.aload_n 0, 1) := by decide +kernel
theorem d_Row_putInt_9 : decode b_Row_putInt 9 = .ok (.iload_n 1, 1) := by decide +kernel
theorem d_Row_putInt_10 : decode b_Row_putInt 10 = .ok (.bipush 16, 2) := by decide +kernel
theorem d_Row_putInt_12 : decode b_Row_putInt 12 = .ok (.iushr, 1) := by decide +kernel
theorem d_Row_putInt_13 : decode b_Row_putInt 13 = .ok (.sipush 255, 3) := by decide +kernel
theorem d_Row_putInt_16 : decode b_Row_putInt 16 = .ok (.iand, 1) := by decide +kernel
theorem d_Row_putInt_17 : decode b_Row_putInt 17 = .ok (.invokevirtual 19, 3) := by decide +kernel
theorem d_Row_putInt_20 : decode b_Row_putInt 20 = .ok (.aload_n 0, 1) := by decide +kernel
theorem d_Row_putInt_21 : decode b_Row_putInt 21 = .ok (.iload_n 1, 1) := by decide +kernel
theorem d_Row_putInt_22 : decode b_Row_putInt 22 = .ok (.bipush 8, 2) := by decide +kernel
theorem d_Row_putInt_24 : decode b_Row_putInt 24 = .ok (.iushr, 1) := by decide +kernel
theorem d_Row_putInt_25 : decode b_Row_putInt 25 = .ok (.sipush 255, 3) := by decide +kernel
theorem d_Row_putInt_28 : decode b_Row_putInt 28 = .ok (.iand, 1) := by decide +kernel
theorem d_Row_putInt_29 : decode b_Row_putInt 29 = .ok (.invokevirtual 19, 3) := by decide +kernel
theorem d_Row_putInt_32 : decode b_Row_putInt 32 = .ok (.aload_n 0, 1) := by decide +kernel
theorem d_Row_putInt_33 : decode b_Row_putInt 33 = .ok (.iload_n 1, 1) := by decide +kernel
theorem d_Row_putInt_34 : decode b_Row_putInt 34 = .ok (.sipush 255, 3) := by decide +kernel
theorem d_Row_putInt_37 : decode b_Row_putInt 37 = .ok (.iand, 1) := by decide +kernel
theorem d_Row_putInt_38 : decode b_Row_putInt 38 = .ok (.invokevirtual 19, 3) := by decide +kernel
theorem d_Row_putInt_41 : decode b_Row_putInt 41 = .ok (.return_, 1) := by decide +kernel
theorem d_Thing_isGiven_0 : decode b_Thing_isGiven 0 = .ok (.iload_n 1, 1) := by decide +kernel
theorem d_Thing_isGiven_1 : decode b_Thing_isGiven 1 = .ok (.ifCond .lt 22, 3) := by decide +kernel
theorem d_Thing_isGiven_4 : decode b_Thing_isGiven 4 = .ok (.iload_n 1, 1) := by decide +kernel
theorem d_Thing_isGiven_5 : decode b_Thing_isGiven 5 = .ok (.bipush 16, 2) := by decide +kernel
theorem d_Thing_isGiven_7 : decode b_Thing_isGiven 7 = .ok (.if_icmp .gt 16, 3) := by decide +kernel
theorem d_Thing_isGiven_10 : decode b_Thing_isGiven 10 = .ok (.aload_n 0, 1) := by decide +kernel
theorem d_Thing_isGiven_11 : decode b_Thing_isGiven 11 = .ok (.getfield 15, 3) := by decide +kernel
theorem d_Thing_isGiven_14 : decode b_Thing_isGiven 14 = .ok (.iload_n 1, 1) := by decide +kernel
theorem d_Thing_isGiven_15 : decode b_Thing_isGiven 15 = .ok (.baload, 1) := by decide +kernel
theorem d_Thing_isGiven_16 : decode b_Thing_isGiven 16 = .ok (.ifCond .eq 7, 3) := by decide +kernel
theorem d_Thing_isGiven_19 : decode b_Thing_isGiven 19 = .ok (.iconst 1, 1) := by decide +kernel
theorem d_Thing_isGiven_20 : decode b_Thing_isGiven 20 = .ok (.goto 4, 3) := by decide +kernel
theorem d_Thing_isGiven_23 : decode b_Thing_isGiven 23 = .ok (.iconst 0, 1) := by decide +kernel
theorem d_Thing_isGiven_24 : decode b_Thing_isGiven 24 = .ok (.ireturn, 1) := by decide +kernel
theorem d_Thing_shown_0 : decode b_Thing_shown 0 = .ok (.iconst 1, 1) := by decide +kernel
theorem d_Thing_shown_1 : decode b_Thing_shown 1 = .ok (.istore_n 1, 1) := by decide +kernel
theorem d_Thing_shown_2 : decode b_Thing_shown 2 = .ok (.iload_n 1, 1) := by decide +kernel
theorem d_Thing_shown_3 : decode b_Thing_shown 3 = .ok (.bipush 16, 2) := by decide +kernel
theorem d_Thing_shown_5 : decode b_Thing_shown 5 = .ok (.if_icmp .gt 25, 3) := by decide +kernel
theorem d_Thing_shown_8 : decode b_Thing_shown 8 = .ok (.aload_n 0, 1) := by decide +kernel
theorem d_Thing_shown_9 : decode b_Thing_shown 9 = .ok (.getfield 15, 3) := by decide +kernel
theorem d_Thing_shown_12 : decode b_Thing_shown 12 = .ok (.iload_n 1, 1) := by decide +kernel
theorem d_Thing_shown_13 : decode b_Thing_shown 13 = .ok (.baload, 1) := by decide +kernel
theorem d_Thing_shown_14 : decode b_Thing_shown 14 = .ok (.ifCond .eq 10, 3) := by decide +kernel
theorem d_Thing_shown_17 : decode b_Thing_shown 17 = .ok (.aload_n 0, 1) := by decide +kernel
theorem d_Thing_shown_18 : decode b_Thing_shown 18 = .ok (.getfield 9, 3) := by decide +kernel
theorem d_Thing_shown_21 : decode b_Thing_shown 21 = .ok (.iload_n 1, 1) := by decide +kernel
theorem d_Thing_shown_22 : decode b_Thing_shown 22 = .ok (.iaload, 1) := by decide +kernel
theorem d_Thing_shown_23 : decode b_Thing_shown 23 = .ok (.ireturn, 1) := by decide +kernel
theorem d_Thing_shown_24 : decode b_Thing_shown 24 = .ok (.iinc 1 1, 3) := by decide +kernel
theorem d_Thing_shown_27 : decode b_Thing_shown 27 = .ok (.goto (-25), 3) := by decide +kernel
theorem d_Thing_shown_30 : decode b_Thing_shown 30 = .ok (.aload_n 0, 1) := by decide +kernel
theorem d_Thing_shown_31 : decode b_Thing_shown 31 = .ok (.getfield 9, 3) := by decide +kernel
theorem d_Thing_shown_34 : decode b_Thing_shown 34 = .ok (.iconst 0, 1) := by decide +kernel
theorem d_Thing_shown_35 : decode b_Thing_shown 35 = .ok (.iaload, 1) := by decide +kernel
theorem d_Thing_shown_36 : decode b_Thing_shown 36 = .ok (.ireturn, 1) := by decide +kernel
theorem d_Thing_valueOf_0 : decode b_Thing_valueOf 0 = .ok (.iload_n 1, 1) := by decide +kernel
theorem d_Thing_valueOf_1 : decode b_Thing_valueOf 1 = .ok (.ifCond .lt 18, 3) := by decide +kernel
theorem d_Thing_valueOf_4 : decode b_Thing_valueOf 4 = .ok (.iload_n 1, 1) := by decide +kernel
theorem d_Thing_valueOf_5 : decode b_Thing_valueOf 5 = .ok (.bipush 16, 2) := by decide +kernel
theorem d_Thing_valueOf_7 : decode b_Thing_valueOf 7 = .ok (.if_icmp .gt 12, 3) := by decide +kernel
theorem d_Thing_valueOf_10 : decode b_Thing_valueOf 10 = .ok (.aload_n 0, 1) := by decide +kernel
theorem d_Thing_valueOf_11 : decode b_Thing_valueOf 11 = .ok (.getfield 9, 3) := by decide +kernel
theorem d_Thing_valueOf_14 : decode b_Thing_valueOf 14 = .ok (.iload_n 1, 1) := by decide +kernel
theorem d_Thing_valueOf_15 : decode b_Thing_valueOf 15 = .ok (.iaload, 1) := by decide +kernel
theorem d_Thing_valueOf_16 : decode b_Thing_valueOf 16 = .ok (.goto 4, 3) := by decide +kernel
theorem d_Thing_valueOf_19 : decode b_Thing_valueOf 19 = .ok (.iconst 0, 1) := by decide +kernel
theorem d_Thing_valueOf_20 : decode b_Thing_valueOf 20 = .ok (.ireturn, 1) := by decide +kernel
theorem d_Ear_rest_0 : decode b_Ear_rest 0 = .ok (.aload_n 0, 1) := by decide +kernel
theorem d_Ear_rest_1 : decode b_Ear_rest 1 = .ok (.getfield 25, 3) := by decide +kernel
theorem d_Ear_rest_4 : decode b_Ear_rest 4 = .ok (.iconst 2, 1) := by decide +kernel
theorem d_Ear_rest_5 : decode b_Ear_rest 5 = .ok (.if_icmp .lt 15, 3) := by decide +kernel
theorem d_Ear_rest_8 : decode b_Ear_rest 8 = .ok (.iload_n 1, 1) := by decide +kernel
theorem d_Ear_rest_9 : decode b_Ear_rest 9 = .ok (.iconst 4, 1) := by decide +kernel
theorem d_Ear_rest_10 : decode b_Ear_rest 10 = .ok (.if_icmp .lt 10, 3) := by decide +kernel
theorem d_Ear_rest_13 : decode b_Ear_rest 13 = .ok (.aload_n 0, 1) := by decide +kernel
theorem d_Ear_rest_14 : decode b_Ear_rest 14 = .ok (.iconst 0, 1) := by decide +kernel
theorem d_Ear_rest_15 : decode b_Ear_rest 15 = .ok (.putfield 25, 3) := by decide +kernel
theorem d_Ear_rest_18 : decode b_Ear_rest 18 = .ok (.iconst 2, 1) := by decide +kernel
theorem d_Ear_rest_19 : decode b_Ear_rest 19 = .ok (.ireturn, 1) := by decide +kernel
theorem d_Ear_rest_20 : decode b_Ear_rest 20 = .ok (.iconst 0, 1) := by decide +kernel
theorem d_Ear_rest_21 : decode b_Ear_rest 21 = .ok (.ireturn, 1) := by decide +kernel
