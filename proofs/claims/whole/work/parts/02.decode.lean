theorem dX0_init_0 : decode cX0_init 0 = .ok (.aload_n 0, 1) := by decide +kernel
theorem dX0_init_1 : decode cX0_init 1 = .ok (.invokespecial 5, 3) := by decide +kernel
theorem dX0_init_4 : decode cX0_init 4 = .ok (.aload_n 0, 1) := by decide +kernel
theorem dX0_init_5 : decode cX0_init 5 = .ok (.sipush 288, 3) := by decide +kernel
theorem dX0_init_8 : decode cX0_init 8 = .ok (.newarray .int, 2) := by decide +kernel
theorem dX0_init_10 : decode cX0_init 10 = .ok (.putfield 11, 3) := by decide +kernel
theorem dX0_init_13 : decode cX0_init 13 = .ok (.return_, 1) := by decide +kernel
theorem dX0_forget_0 : decode cX0_forget 0 = .ok (.aload_n 0, 1) := by decide +kernel
theorem dX0_forget_1 : decode cX0_forget 1 = .ok (.iconst 0, 1) := by decide +kernel
theorem dX0_forget_2 : decode cX0_forget 2 = .ok (.putfield 15, 3) := by decide +kernel
theorem dX0_forget_5 : decode cX0_forget 5 = .ok (.aload_n 0, 1) := by decide +kernel
theorem dX0_forget_6 : decode cX0_forget 6 = .ok (.iconst 0, 1) := by decide +kernel
theorem dX0_forget_7 : decode cX0_forget 7 = .ok (.putfield 19, 3) := by decide +kernel
theorem dX0_forget_10 : decode cX0_forget 10 = .ok (.return_, 1) := by decide +kernel
theorem dX0_keep_0 : decode cX0_keep 0 = .ok (.aload_n 0, 1) := by decide +kernel
theorem dX0_keep_1 : decode cX0_keep 1 = .ok (.getfield 19, 3) := by decide +kernel
theorem dX0_keep_4 : decode cX0_keep 4 = .ok (.bipush 12, 2) := by decide +kernel
theorem dX0_keep_6 : decode cX0_keep 6 = .ok (.imul, 1) := by decide +kernel
theorem dX0_keep_7 : decode cX0_keep 7 = .ok (.istore_n 2, 1) := by decide +kernel
theorem dX0_keep_8 : decode cX0_keep 8 = .ok (.aload_n 0, 1) := by decide +kernel
theorem dX0_keep_9 : decode cX0_keep 9 = .ok (.getfield 11, 3) := by decide +kernel
theorem dX0_keep_12 : decode cX0_keep 12 = .ok (.iload_n 2, 1) := by decide +kernel
theorem dX0_keep_13 : decode cX0_keep 13 = .ok (.aload_n 1, 1) := by decide +kernel
theorem dX0_keep_14 : decode cX0_keep 14 = .ok (.getfield 22, 3) := by decide +kernel
theorem dX0_keep_17 : decode cX0_keep 17 = .ok (.iastore, 1) := by decide +kernel
theorem dX0_keep_18 : decode cX0_keep 18 = .ok (.aload_n 0, 1) := by decide +kernel
theorem dX0_keep_19 : decode cX0_keep 19 = .ok (.getfield 11, 3) := by decide +kernel
theorem dX0_keep_22 : decode cX0_keep 22 = .ok (.iload_n 2, 1) := by decide +kernel
theorem dX0_keep_23 : decode cX0_keep 23 = .ok (.iconst 1, 1) := by decide +kernel
theorem dX0_keep_24 : decode cX0_keep 24 = .ok (.iadd, 1) := by decide +kernel
theorem dX0_keep_25 : decode cX0_keep 25 = .ok (.aload_n 1, 1) := by decide +kernel
theorem dX0_keep_26 : decode cX0_keep 26 = .ok (.getfield 27, 3) := by decide +kernel
theorem dX0_keep_29 : decode cX0_keep 29 = .ok (.iastore, 1) := by decide +kernel
theorem dX0_keep_30 : decode cX0_keep 30 = .ok (.aload_n 1, 1) := by decide +kernel
theorem dX0_keep_31 : decode cX0_keep 31 = .ok (.getfield 30, 3) := by decide +kernel
theorem dX0_keep_34 : decode cX0_keep 34 = .ok (.iconst 0, 1) := by decide +kernel
theorem dX0_keep_35 : decode cX0_keep 35 = .ok (.aload_n 0, 1) := by decide +kernel
theorem dX0_keep_36 : decode cX0_keep 36 = .ok (.getfield 11, 3) := by decide +kernel
theorem dX0_keep_39 : decode cX0_keep 39 = .ok (.iload_n 2, 1) := by decide +kernel
theorem dX0_keep_40 : decode cX0_keep 40 = .ok (.iconst 2, 1) := by decide +kernel
theorem dX0_keep_41 : decode cX0_keep 41 = .ok (.iadd, 1) := by decide +kernel
theorem dX0_keep_42 : decode cX0_keep 42 = .ok (.iconst 5, 1) := by decide +kernel
theorem dX0_keep_43 : decode cX0_keep 43 = .ok (.invokestatic 33, 3) := by decide +kernel
theorem dX0_keep_46 : decode cX0_keep 46 = .ok (.aload_n 1, 1) := by decide +kernel
theorem dX0_keep_47 : decode cX0_keep 47 = .ok (.getfield 39, 3) := by decide +kernel
theorem dX0_keep_50 : decode cX0_keep 50 = .ok (.iconst 0, 1) := by decide +kernel
theorem dX0_keep_51 : decode cX0_keep 51 = .ok (.aload_n 0, 1) := by decide +kernel
theorem dX0_keep_52 : decode cX0_keep 52 = .ok (.getfield 11, 3) := by decide +kernel
theorem dX0_keep_55 : decode cX0_keep 55 = .ok (.iload_n 2, 1) := by decide +kernel
theorem dX0_keep_56 : decode cX0_keep 56 = .ok (.bipush 7, 2) := by decide +kernel
theorem dX0_keep_58 : decode cX0_keep 58 = .ok (.iadd, 1) := by decide +kernel
theorem dX0_keep_59 : decode cX0_keep 59 = .ok (.iconst 5, 1) := by decide +kernel
theorem dX0_keep_60 : decode cX0_keep 60 = .ok (.invokestatic 33, 3) := by decide +kernel
theorem dX0_keep_63 : decode cX0_keep 63 = .ok (.aload_n 0, 1) := by decide +kernel
theorem dX0_keep_64 : decode cX0_keep 64 = .ok (.aload_n 0, 1) := by decide +kernel
theorem dX0_keep_65 : decode cX0_keep 65 = .ok (.getfield 19, 3) := by decide +kernel
theorem dX0_keep_68 : decode cX0_keep 68 = .ok (.iconst 1, 1) := by decide +kernel
theorem dX0_keep_69 : decode cX0_keep 69 = .ok (.iadd, 1) := by decide +kernel
theorem dX0_keep_70 : decode cX0_keep 70 = .ok (.bipush 24, 2) := by decide +kernel
theorem dX0_keep_72 : decode cX0_keep 72 = .ok (.irem, 1) := by decide +kernel
theorem dX0_keep_73 : decode cX0_keep 73 = .ok (.putfield 19, 3) := by decide +kernel
theorem dX0_keep_76 : decode cX0_keep 76 = .ok (.aload_n 0, 1) := by decide +kernel
theorem dX0_keep_77 : decode cX0_keep 77 = .ok (.aload_n 0, 1) := by decide +kernel
theorem dX0_keep_78 : decode cX0_keep 78 = .ok (.getfield 15, 3) := by decide +kernel
theorem dX0_keep_81 : decode cX0_keep 81 = .ok (.iconst 1, 1) := by decide +kernel
theorem dX0_keep_82 : decode cX0_keep 82 = .ok (.iadd, 1) := by decide +kernel
theorem dX0_keep_83 : decode cX0_keep 83 = .ok (.bipush 24, 2) := by decide +kernel
theorem dX0_keep_85 : decode cX0_keep 85 = .ok (.invokestatic 42, 3) := by decide +kernel
theorem dX0_keep_88 : decode cX0_keep 88 = .ok (.putfield 15, 3) := by decide +kernel
theorem dX0_keep_91 : decode cX0_keep 91 = .ok (.return_, 1) := by decide +kernel
theorem dX0_takeBack_0 : decode cX0_takeBack 0 = .ok (.aload_n 0, 1) := by decide +kernel
theorem dX0_takeBack_1 : decode cX0_takeBack 1 = .ok (.getfield 15, 3) := by decide +kernel
theorem dX0_takeBack_4 : decode cX0_takeBack 4 = .ok (.iconst 1, 1) := by decide +kernel
theorem dX0_takeBack_5 : decode cX0_takeBack 5 = .ok (.if_icmp .ge 5, 3) := by decide +kernel
theorem dX0_takeBack_8 : decode cX0_takeBack 8 = .ok (.iconst 0, 1) := by decide +kernel
theorem dX0_takeBack_9 : decode cX0_takeBack 9 = .ok (.ireturn, 1) := by decide +kernel
theorem dX0_takeBack_10 : decode cX0_takeBack 10 = .ok (.aload_n 0, 1) := by decide +kernel
theorem dX0_takeBack_11 : decode cX0_takeBack 11 = .ok (.dup, 1) := by decide +kernel
theorem dX0_takeBack_12 : decode cX0_takeBack 12 = .ok (.getfield 15, 3) := by decide +kernel
theorem dX0_takeBack_15 : decode cX0_takeBack 15 = .ok (.iconst 1, 1) := by decide +kernel
theorem dX0_takeBack_16 : decode cX0_takeBack 16 = .ok (.isub, 1) := by decide +kernel
theorem dX0_takeBack_17 : decode cX0_takeBack 17 = .ok (.putfield 15, 3) := by decide +kernel
theorem dX0_takeBack_20 : decode cX0_takeBack 20 = .ok (.aload_n 0, 1) := by decide +kernel
theorem dX0_takeBack_21 : decode cX0_takeBack 21 = .ok (.aload_n 0, 1) := by decide +kernel
theorem dX0_takeBack_22 : decode cX0_takeBack 22 = .ok (.getfield 19, 3) := by decide +kernel
theorem dX0_takeBack_25 : decode cX0_takeBack 25 = .ok (.bipush 24, 2) := by decide +kernel
theorem dX0_takeBack_27 : decode cX0_takeBack 27 = .ok (.iadd, 1) := by decide +kernel
theorem dX0_takeBack_28 : decode cX0_takeBack 28 = .ok (.iconst 1, 1) := by decide +kernel
theorem dX0_takeBack_29 : decode cX0_takeBack 29 = .ok (.isub, 1) := by decide +kernel
theorem dX0_takeBack_30 : decode cX0_takeBack 30 = .ok (.bipush 24, 2) := by decide +kernel
theorem dX0_takeBack_32 : decode cX0_takeBack 32 = .ok (.irem, 1) := by decide +kernel
theorem dX0_takeBack_33 : decode cX0_takeBack 33 = .ok (.putfield 19, 3) := by decide +kernel
theorem dX0_takeBack_36 : decode cX0_takeBack 36 = .ok (.aload_n 0, 1) := by decide +kernel
theorem dX0_takeBack_37 : decode cX0_takeBack 37 = .ok (.getfield 19, 3) := by decide +kernel
theorem dX0_takeBack_40 : decode cX0_takeBack 40 = .ok (.bipush 12, 2) := by decide +kernel
theorem dX0_takeBack_42 : decode cX0_takeBack 42 = .ok (.imul, 1) := by decide +kernel
theorem dX0_takeBack_43 : decode cX0_takeBack 43 = .ok (.istore_n 2, 1) := by decide +kernel
theorem dX0_takeBack_44 : decode cX0_takeBack 44 = .ok (.aload_n 1, 1) := by decide +kernel
theorem dX0_takeBack_45 : decode cX0_takeBack 45 = .ok (.aload_n 0, 1) := by decide +kernel
theorem dX0_takeBack_46 : decode cX0_takeBack 46 = .ok (.getfield 11, 3) := by decide +kernel
theorem dX0_takeBack_49 : decode cX0_takeBack 49 = .ok (.iload_n 2, 1) := by decide +kernel
theorem dX0_takeBack_50 : decode cX0_takeBack 50 = .ok (.iaload, 1) := by decide +kernel
theorem dX0_takeBack_51 : decode cX0_takeBack 51 = .ok (.putfield 22, 3) := by decide +kernel
theorem dX0_takeBack_54 : decode cX0_takeBack 54 = .ok (.aload_n 1, 1) := by decide +kernel
theorem dX0_takeBack_55 : decode cX0_takeBack 55 = .ok (.aload_n 0, 1) := by decide +kernel
theorem dX0_takeBack_56 : decode cX0_takeBack 56 = .ok (.getfield 11, 3) := by decide +kernel
theorem dX0_takeBack_59 : decode cX0_takeBack 59 = .ok (.iload_n 2, 1) := by decide +kernel
theorem dX0_takeBack_60 : decode cX0_takeBack 60 = .ok (.iconst 1, 1) := by decide +kernel
theorem dX0_takeBack_61 : decode cX0_takeBack 61 = .ok (.iadd, 1) := by decide +kernel
theorem dX0_takeBack_62 : decode cX0_takeBack 62 = .ok (.iaload, 1) := by decide +kernel
theorem dX0_takeBack_63 : decode cX0_takeBack 63 = .ok (.putfield 27, 3) := by decide +kernel
theorem dX0_takeBack_66 : decode cX0_takeBack 66 = .ok (.aload_n 0, 1) := by decide +kernel
theorem dX0_takeBack_67 : decode cX0_takeBack 67 = .ok (.getfield 11, 3) := by decide +kernel
theorem dX0_takeBack_70 : decode cX0_takeBack 70 = .ok (.iload_n 2, 1) := by decide +kernel
theorem dX0_takeBack_71 : decode cX0_takeBack 71 = .ok (.iconst 2, 1) := by decide +kernel
theorem dX0_takeBack_72 : decode cX0_takeBack 72 = .ok (.iadd, 1) := by decide +kernel
theorem dX0_takeBack_73 : decode cX0_takeBack 73 = .ok (.aload_n 1, 1) := by decide +kernel
theorem dX0_takeBack_74 : decode cX0_takeBack 74 = .ok (.getfield 30, 3) := by decide +kernel
theorem dX0_takeBack_77 : decode cX0_takeBack 77 = .ok (.iconst 0, 1) := by decide +kernel
theorem dX0_takeBack_78 : decode cX0_takeBack 78 = .ok (.iconst 5, 1) := by decide +kernel
theorem dX0_takeBack_79 : decode cX0_takeBack 79 = .ok (.invokestatic 33, 3) := by decide +kernel
theorem dX0_takeBack_82 : decode cX0_takeBack 82 = .ok (.aload_n 0, 1) := by decide +kernel
theorem dX0_takeBack_83 : decode cX0_takeBack 83 = .ok (.getfield 11, 3) := by decide +kernel
theorem dX0_takeBack_86 : decode cX0_takeBack 86 = .ok (.iload_n 2, 1) := by decide +kernel
theorem dX0_takeBack_87 : decode cX0_takeBack 87 = .ok (.bipush 7, 2) := by decide +kernel
theorem dX0_takeBack_89 : decode cX0_takeBack 89 = .ok (.iadd, 1) := by decide +kernel
theorem dX0_takeBack_90 : decode cX0_takeBack 90 = .ok (.aload_n 1, 1) := by decide +kernel
theorem dX0_takeBack_91 : decode cX0_takeBack 91 = .ok (.getfield 39, 3) := by decide +kernel
theorem dX0_takeBack_94 : decode cX0_takeBack 94 = .ok (.iconst 0, 1) := by decide +kernel
theorem dX0_takeBack_95 : decode cX0_takeBack 95 = .ok (.iconst 5, 1) := by decide +kernel
theorem dX0_takeBack_96 : decode cX0_takeBack 96 = .ok (.invokestatic 33, 3) := by decide +kernel
theorem dX0_takeBack_99 : decode cX0_takeBack 99 = .ok (.iconst 1, 1) := by decide +kernel
theorem dX0_takeBack_100 : decode cX0_takeBack 100 = .ok (.ireturn, 1) := by decide +kernel
theorem dX1_init_0 : decode cX1_init 0 = .ok (.aload_n 0, 1) := by decide +kernel
theorem dX1_init_1 : decode cX1_init 1 = .ok (.invokespecial 3, 3) := by decide +kernel
theorem dX1_init_4 : decode cX1_init 4 = .ok (.aload_n 0, 1) := by decide +kernel
theorem dX1_init_5 : decode cX1_init 5 = .ok (.bipush 16, 2) := by decide +kernel
theorem dX1_init_7 : decode cX1_init 7 = .ok (.newarray .int, 2) := by decide +kernel
theorem dX1_init_9 : decode cX1_init 9 = .ok (.putfield 11, 3) := by decide +kernel
theorem dX1_init_12 : decode cX1_init 12 = .ok (.return_, 1) := by decide +kernel
theorem dX1_isA_0 : decode cX1_isA 0 = .ok (.iload_n 1, 1) := by decide +kernel
theorem dX1_isA_1 : decode cX1_isA 1 = .ok (.istore_n 3, 1) := by decide +kernel
theorem dX1_isA_2 : decode cX1_isA 2 = .ok (.iconst 0, 1) := by decide +kernel
theorem dX1_isA_3 : decode cX1_isA 3 = .ok (.istore 4, 2) := by decide +kernel
theorem dX1_isA_5 : decode cX1_isA 5 = .ok (.iload 4, 2) := by decide +kernel
theorem dX1_isA_7 : decode cX1_isA 7 = .ok (.getstatic 15, 3) := by decide +kernel
theorem dX1_isA_10 : decode cX1_isA 10 = .ok (.arraylength, 1) := by decide +kernel
theorem dX1_isA_11 : decode cX1_isA 11 = .ok (.if_icmp .ge 31, 3) := by decide +kernel
theorem dX1_isA_14 : decode cX1_isA 14 = .ok (.iload_n 3, 1) := by decide +kernel
theorem dX1_isA_15 : decode cX1_isA 15 = .ok (.iconst 0, 1) := by decide +kernel
theorem dX1_isA_16 : decode cX1_isA 16 = .ok (.iconst 5, 1) := by decide +kernel
theorem dX1_isA_17 : decode cX1_isA 17 = .ok (.invokestatic 18, 3) := by decide +kernel
theorem dX1_isA_20 : decode cX1_isA 20 = .ok (.ifCond .eq 22, 3) := by decide +kernel
theorem dX1_isA_23 : decode cX1_isA 23 = .ok (.iload_n 3, 1) := by decide +kernel
theorem dX1_isA_24 : decode cX1_isA 24 = .ok (.iload_n 2, 1) := by decide +kernel
theorem dX1_isA_25 : decode cX1_isA 25 = .ok (.if_icmp .ne 5, 3) := by decide +kernel
theorem dX1_isA_28 : decode cX1_isA 28 = .ok (.iconst 1, 1) := by decide +kernel
theorem dX1_isA_29 : decode cX1_isA 29 = .ok (.ireturn, 1) := by decide +kernel
theorem dX1_isA_30 : decode cX1_isA 30 = .ok (.getstatic 15, 3) := by decide +kernel
theorem dX1_isA_33 : decode cX1_isA 33 = .ok (.iload_n 3, 1) := by decide +kernel
theorem dX1_isA_34 : decode cX1_isA 34 = .ok (.iaload, 1) := by decide +kernel
theorem dX1_isA_35 : decode cX1_isA 35 = .ok (.istore_n 3, 1) := by decide +kernel
theorem dX1_isA_36 : decode cX1_isA 36 = .ok (.iinc 4 1, 3) := by decide +kernel
theorem dX1_isA_39 : decode cX1_isA 39 = .ok (.goto (-34), 3) := by decide +kernel
theorem dX1_isA_42 : decode cX1_isA 42 = .ok (.iconst 0, 1) := by decide +kernel
theorem dX1_isA_43 : decode cX1_isA 43 = .ok (.ireturn, 1) := by decide +kernel
theorem dX1_sizeOf_0 : decode cX1_sizeOf 0 = .ok (.aload_n 0, 1) := by decide +kernel
theorem dX1_sizeOf_1 : decode cX1_sizeOf 1 = .ok (.iconst 0, 1) := by decide +kernel
theorem dX1_sizeOf_2 : decode cX1_sizeOf 2 = .ok (.putfield 22, 3) := by decide +kernel
theorem dX1_sizeOf_5 : decode cX1_sizeOf 5 = .ok (.aload_n 0, 1) := by decide +kernel
theorem dX1_sizeOf_6 : decode cX1_sizeOf 6 = .ok (.aload_n 0, 1) := by decide +kernel
theorem dX1_sizeOf_7 : decode cX1_sizeOf 7 = .ok (.aload_n 1, 1) := by decide +kernel
theorem dX1_sizeOf_8 : decode cX1_sizeOf 8 = .ok (.getfield 26, 3) := by decide +kernel
theorem dX1_sizeOf_11 : decode cX1_sizeOf 11 = .ok (.iload_n 2, 1) := by decide +kernel
theorem dX1_sizeOf_12 : decode cX1_sizeOf 12 = .ok (.iaload, 1) := by decide +kernel
theorem dX1_sizeOf_13 : decode cX1_sizeOf 13 = .ok (.getstatic 31, 3) := by decide +kernel
theorem dX1_sizeOf_16 : decode cX1_sizeOf 16 = .ok (.invokevirtual 34, 3) := by decide +kernel
theorem dX1_sizeOf_19 : decode cX1_sizeOf 19 = .ok (.aload_n 1, 1) := by decide +kernel
theorem dX1_sizeOf_20 : decode cX1_sizeOf 20 = .ok (.iload_n 2, 1) := by decide +kernel
theorem dX1_sizeOf_21 : decode cX1_sizeOf 21 = .ok (.iconst 0, 1) := by decide +kernel
theorem dX1_sizeOf_22 : decode cX1_sizeOf 22 = .ok (.invokevirtual 38, 3) := by decide +kernel
theorem dX1_sizeOf_25 : decode cX1_sizeOf 25 = .ok (.ireturn, 1) := by decide +kernel
theorem dX1_markOf_0 : decode cX1_markOf 0 = .ok (.aload_n 0, 1) := by decide +kernel
theorem dX1_markOf_1 : decode cX1_markOf 1 = .ok (.iconst 0, 1) := by decide +kernel
theorem dX1_markOf_2 : decode cX1_markOf 2 = .ok (.putfield 22, 3) := by decide +kernel
theorem dX1_markOf_5 : decode cX1_markOf 5 = .ok (.aload_n 0, 1) := by decide +kernel
theorem dX1_markOf_6 : decode cX1_markOf 6 = .ok (.aload_n 0, 1) := by decide +kernel
theorem dX1_markOf_7 : decode cX1_markOf 7 = .ok (.aload_n 1, 1) := by decide +kernel
theorem dX1_markOf_8 : decode cX1_markOf 8 = .ok (.getfield 26, 3) := by decide +kernel
theorem dX1_markOf_11 : decode cX1_markOf 11 = .ok (.iload_n 2, 1) := by decide +kernel
theorem dX1_markOf_12 : decode cX1_markOf 12 = .ok (.iaload, 1) := by decide +kernel
theorem dX1_markOf_13 : decode cX1_markOf 13 = .ok (.getstatic 42, 3) := by decide +kernel
theorem dX1_markOf_16 : decode cX1_markOf 16 = .ok (.invokevirtual 34, 3) := by decide +kernel
theorem dX1_markOf_19 : decode cX1_markOf 19 = .ok (.aload_n 1, 1) := by decide +kernel
theorem dX1_markOf_20 : decode cX1_markOf 20 = .ok (.iload_n 2, 1) := by decide +kernel
theorem dX1_markOf_21 : decode cX1_markOf 21 = .ok (.iconst 0, 1) := by decide +kernel
theorem dX1_markOf_22 : decode cX1_markOf 22 = .ok (.invokevirtual 38, 3) := by decide +kernel
theorem dX1_markOf_25 : decode cX1_markOf 25 = .ok (.ireturn, 1) := by decide +kernel
theorem dX1_bodyFor_0 : decode cX1_bodyFor 0 = .ok (.iload_n 1, 1) := by decide +kernel
theorem dX1_bodyFor_1 : decode cX1_bodyFor 1 = .ok (.iconst 0, 1) := by decide +kernel
theorem dX1_bodyFor_2 : decode cX1_bodyFor 2 = .ok (.aload_n 2, 1) := by decide +kernel
theorem dX1_bodyFor_3 : decode cX1_bodyFor 3 = .ok (.arraylength, 1) := by decide +kernel
theorem dX1_bodyFor_4 : decode cX1_bodyFor 4 = .ok (.iconst 1, 1) := by decide +kernel
theorem dX1_bodyFor_5 : decode cX1_bodyFor 5 = .ok (.isub, 1) := by decide +kernel
theorem dX1_bodyFor_6 : decode cX1_bodyFor 6 = .ok (.invokestatic 18, 3) := by decide +kernel
theorem dX1_bodyFor_9 : decode cX1_bodyFor 9 = .ok (.ifCond .eq 9, 3) := by decide +kernel
theorem dX1_bodyFor_12 : decode cX1_bodyFor 12 = .ok (.aload_n 2, 1) := by decide +kernel
theorem dX1_bodyFor_13 : decode cX1_bodyFor 13 = .ok (.iload_n 1, 1) := by decide +kernel
theorem dX1_bodyFor_14 : decode cX1_bodyFor 14 = .ok (.iaload, 1) := by decide +kernel
theorem dX1_bodyFor_15 : decode cX1_bodyFor 15 = .ok (.goto 6, 3) := by decide +kernel
theorem dX1_bodyFor_18 : decode cX1_bodyFor 18 = .ok (.aload_n 2, 1) := by decide +kernel
theorem dX1_bodyFor_19 : decode cX1_bodyFor 19 = .ok (.iconst 0, 1) := by decide +kernel
theorem dX1_bodyFor_20 : decode cX1_bodyFor 20 = .ok (.iaload, 1) := by decide +kernel
theorem dX1_bodyFor_21 : decode cX1_bodyFor 21 = .ok (.ireturn, 1) := by decide +kernel
theorem dX1_give_0 : decode cX1_give 0 = .ok (.iload 4, 2) := by decide +kernel
theorem dX1_give_2 : decode cX1_give 2 = .ok (.bipush 16, 2) := by decide +kernel
theorem dX1_give_4 : decode cX1_give 4 = .ok (.if_icmp .le 5, 3) := by decide +kernel
theorem dX1_give_7 : decode cX1_give 7 = .ok (.iconst 0, 1) := by decide +kernel
theorem dX1_give_8 : decode cX1_give 8 = .ok (.ireturn, 1) := by decide +kernel
theorem dX1_give_9 : decode cX1_give 9 = .ok (.aload_n 0, 1) := by decide +kernel
theorem dX1_give_10 : decode cX1_give 10 = .ok (.iload_n 1, 1) := by decide +kernel
theorem dX1_give_11 : decode cX1_give 11 = .ok (.invokevirtual 45, 3) := by decide +kernel
theorem dX1_give_14 : decode cX1_give 14 = .ok (.aload_n 2, 1) := by decide +kernel
theorem dX1_give_15 : decode cX1_give 15 = .ok (.getfield 26, 3) := by decide +kernel
theorem dX1_give_18 : decode cX1_give 18 = .ok (.iload_n 3, 1) := by decide +kernel
theorem dX1_give_19 : decode cX1_give 19 = .ok (.iaload, 1) := by decide +kernel
theorem dX1_give_20 : decode cX1_give 20 = .ok (.istore 5, 2) := by decide +kernel
theorem dX1_give_22 : decode cX1_give 22 = .ok (.iload 4, 2) := by decide +kernel
theorem dX1_give_24 : decode cX1_give 24 = .ok (.iconst 1, 1) := by decide +kernel
theorem dX1_give_25 : decode cX1_give 25 = .ok (.iadd, 1) := by decide +kernel
theorem dX1_give_26 : decode cX1_give 26 = .ok (.istore 6, 2) := by decide +kernel
theorem dX1_give_28 : decode cX1_give 28 = .ok (.iload_n 1, 1) := by decide +kernel
theorem dX1_give_29 : decode cX1_give 29 = .ok (.tableswitch 228 10 24 #[75, 82, 111, 124, 138, 228, 228, 228, 228, 228, 151, 153, 171, 186, 215], 75) := by decide +kernel
theorem dX1_give_104 : decode cX1_give 104 = .ok (.aload_n 2, 1) := by decide +kernel
theorem dX1_give_105 : decode cX1_give 105 = .ok (.getfield 49, 3) := by decide +kernel
theorem dX1_give_108 : decode cX1_give 108 = .ok (.iload_n 3, 1) := by decide +kernel
theorem dX1_give_109 : decode cX1_give 109 = .ok (.iaload, 1) := by decide +kernel
theorem dX1_give_110 : decode cX1_give 110 = .ok (.ireturn, 1) := by decide +kernel
theorem dX1_give_111 : decode cX1_give 111 = .ok (.aload_n 0, 1) := by decide +kernel
theorem dX1_give_112 : decode cX1_give 112 = .ok (.bipush 10, 2) := by decide +kernel
theorem dX1_give_114 : decode cX1_give 114 = .ok (.aload_n 2, 1) := by decide +kernel
theorem dX1_give_115 : decode cX1_give 115 = .ok (.iload_n 3, 1) := by decide +kernel
theorem dX1_give_116 : decode cX1_give 116 = .ok (.iload 6, 2) := by decide +kernel
theorem dX1_give_118 : decode cX1_give 118 = .ok (.invokevirtual 38, 3) := by decide +kernel
theorem dX1_give_121 : decode cX1_give 121 = .ok (.aload_n 0, 1) := by decide +kernel
theorem dX1_give_122 : decode cX1_give 122 = .ok (.aload_n 0, 1) := by decide +kernel
theorem dX1_give_123 : decode cX1_give 123 = .ok (.iload 5, 2) := by decide +kernel
theorem dX1_give_125 : decode cX1_give 125 = .ok (.getstatic 42, 3) := by decide +kernel
theorem dX1_give_128 : decode cX1_give 128 = .ok (.invokevirtual 34, 3) := by decide +kernel
theorem dX1_give_131 : decode cX1_give 131 = .ok (.aload_n 2, 1) := by decide +kernel
theorem dX1_give_132 : decode cX1_give 132 = .ok (.iload_n 3, 1) := by decide +kernel
theorem dX1_give_133 : decode cX1_give 133 = .ok (.iload 6, 2) := by decide +kernel
theorem dX1_give_135 : decode cX1_give 135 = .ok (.invokevirtual 38, 3) := by decide +kernel
theorem dX1_give_138 : decode cX1_give 138 = .ok (.iadd, 1) := by decide +kernel
theorem dX1_give_139 : decode cX1_give 139 = .ok (.ireturn, 1) := by decide +kernel
theorem dX1_give_140 : decode cX1_give 140 = .ok (.iconst 0, 1) := by decide +kernel
theorem dX1_give_141 : decode cX1_give 141 = .ok (.aload_n 0, 1) := by decide +kernel
theorem dX1_give_142 : decode cX1_give 142 = .ok (.bipush 11, 2) := by decide +kernel
theorem dX1_give_144 : decode cX1_give 144 = .ok (.aload_n 2, 1) := by decide +kernel
theorem dX1_give_145 : decode cX1_give 145 = .ok (.iload_n 3, 1) := by decide +kernel
theorem dX1_give_146 : decode cX1_give 146 = .ok (.iload 6, 2) := by decide +kernel
theorem dX1_give_148 : decode cX1_give 148 = .ok (.invokevirtual 38, 3) := by decide +kernel
theorem dX1_give_151 : decode cX1_give 151 = .ok (.isub, 1) := by decide +kernel
theorem dX1_give_152 : decode cX1_give 152 = .ok (.ireturn, 1) := by decide +kernel
theorem dX1_give_153 : decode cX1_give 153 = .ok (.aload_n 0, 1) := by decide +kernel
theorem dX1_give_154 : decode cX1_give 154 = .ok (.bipush 10, 2) := by decide +kernel
theorem dX1_give_156 : decode cX1_give 156 = .ok (.aload_n 2, 1) := by decide +kernel
theorem dX1_give_157 : decode cX1_give 157 = .ok (.iload_n 3, 1) := by decide +kernel
theorem dX1_give_158 : decode cX1_give 158 = .ok (.iload 6, 2) := by decide +kernel
theorem dX1_give_160 : decode cX1_give 160 = .ok (.invokevirtual 38, 3) := by decide +kernel
theorem dX1_give_163 : decode cX1_give 163 = .ok (.bipush 100, 2) := by decide +kernel
theorem dX1_give_165 : decode cX1_give 165 = .ok (.isub, 1) := by decide +kernel
theorem dX1_give_166 : decode cX1_give 166 = .ok (.ireturn, 1) := by decide +kernel
theorem dX1_give_167 : decode cX1_give 167 = .ok (.iconst 2, 1) := by decide +kernel
theorem dX1_give_168 : decode cX1_give 168 = .ok (.aload_n 0, 1) := by decide +kernel
theorem dX1_give_169 : decode cX1_give 169 = .ok (.bipush 13, 2) := by decide +kernel
theorem dX1_give_171 : decode cX1_give 171 = .ok (.aload_n 2, 1) := by decide +kernel
theorem dX1_give_172 : decode cX1_give 172 = .ok (.iload_n 3, 1) := by decide +kernel
theorem dX1_give_173 : decode cX1_give 173 = .ok (.iload 6, 2) := by decide +kernel
theorem dX1_give_175 : decode cX1_give 175 = .ok (.invokevirtual 38, 3) := by decide +kernel
theorem dX1_give_178 : decode cX1_give 178 = .ok (.imul, 1) := by decide +kernel
theorem dX1_give_179 : decode cX1_give 179 = .ok (.ireturn, 1) := by decide +kernel
theorem dX1_give_180 : decode cX1_give 180 = .ok (.iload_n 3, 1) := by decide +kernel
theorem dX1_give_181 : decode cX1_give 181 = .ok (.ireturn, 1) := by decide +kernel
theorem dX1_give_182 : decode cX1_give 182 = .ok (.aload_n 0, 1) := by decide +kernel
theorem dX1_give_183 : decode cX1_give 183 = .ok (.bipush 20, 2) := by decide +kernel
theorem dX1_give_185 : decode cX1_give 185 = .ok (.aload_n 2, 1) := by decide +kernel
theorem dX1_give_186 : decode cX1_give 186 = .ok (.iload_n 3, 1) := by decide +kernel
theorem dX1_give_187 : decode cX1_give 187 = .ok (.iload 6, 2) := by decide +kernel
theorem dX1_give_189 : decode cX1_give 189 = .ok (.invokevirtual 38, 3) := by decide +kernel
theorem dX1_give_192 : decode cX1_give 192 = .ok (.aload_n 2, 1) := by decide +kernel
theorem dX1_give_193 : decode cX1_give 193 = .ok (.getfield 52, 3) := by decide +kernel
theorem dX1_give_196 : decode cX1_give 196 = .ok (.iload_n 3, 1) := by decide +kernel
theorem dX1_give_197 : decode cX1_give 197 = .ok (.iaload, 1) := by decide +kernel
theorem dX1_give_198 : decode cX1_give 198 = .ok (.iadd, 1) := by decide +kernel
theorem dX1_give_199 : decode cX1_give 199 = .ok (.ireturn, 1) := by decide +kernel
theorem dX1_give_200 : decode cX1_give 200 = .ok (.aload_n 0, 1) := by decide +kernel
theorem dX1_give_201 : decode cX1_give 201 = .ok (.bipush 21, 2) := by decide +kernel
theorem dX1_give_203 : decode cX1_give 203 = .ok (.aload_n 2, 1) := by decide +kernel
theorem dX1_give_204 : decode cX1_give 204 = .ok (.iload_n 3, 1) := by decide +kernel
theorem dX1_give_205 : decode cX1_give 205 = .ok (.iload 6, 2) := by decide +kernel
theorem dX1_give_207 : decode cX1_give 207 = .ok (.invokevirtual 38, 3) := by decide +kernel
theorem dX1_give_210 : decode cX1_give 210 = .ok (.sipush 1000, 3) := by decide +kernel
theorem dX1_give_213 : decode cX1_give 213 = .ok (.isub, 1) := by decide +kernel
theorem dX1_give_214 : decode cX1_give 214 = .ok (.ireturn, 1) := by decide +kernel
theorem dX1_give_215 : decode cX1_give 215 = .ok (.aload_n 0, 1) := by decide +kernel
theorem dX1_give_216 : decode cX1_give 216 = .ok (.bipush 20, 2) := by decide +kernel
theorem dX1_give_218 : decode cX1_give 218 = .ok (.aload_n 2, 1) := by decide +kernel
theorem dX1_give_219 : decode cX1_give 219 = .ok (.iload_n 3, 1) := by decide +kernel
theorem dX1_give_220 : decode cX1_give 220 = .ok (.iload 6, 2) := by decide +kernel
theorem dX1_give_222 : decode cX1_give 222 = .ok (.invokevirtual 38, 3) := by decide +kernel
theorem dX1_give_225 : decode cX1_give 225 = .ok (.aload_n 0, 1) := by decide +kernel
theorem dX1_give_226 : decode cX1_give 226 = .ok (.aload_n 0, 1) := by decide +kernel
theorem dX1_give_227 : decode cX1_give 227 = .ok (.iload 5, 2) := by decide +kernel
theorem dX1_give_229 : decode cX1_give 229 = .ok (.getstatic 31, 3) := by decide +kernel
theorem dX1_give_232 : decode cX1_give 232 = .ok (.invokevirtual 34, 3) := by decide +kernel
theorem dX1_give_235 : decode cX1_give 235 = .ok (.aload_n 2, 1) := by decide +kernel
theorem dX1_give_236 : decode cX1_give 236 = .ok (.iload_n 3, 1) := by decide +kernel
theorem dX1_give_237 : decode cX1_give 237 = .ok (.iload 6, 2) := by decide +kernel
theorem dX1_give_239 : decode cX1_give 239 = .ok (.invokevirtual 38, 3) := by decide +kernel
theorem dX1_give_242 : decode cX1_give 242 = .ok (.isub, 1) := by decide +kernel
theorem dX1_give_243 : decode cX1_give 243 = .ok (.ireturn, 1) := by decide +kernel
theorem dX1_give_244 : decode cX1_give 244 = .ok (.iconst 2, 1) := by decide +kernel
theorem dX1_give_245 : decode cX1_give 245 = .ok (.aload_n 0, 1) := by decide +kernel
theorem dX1_give_246 : decode cX1_give 246 = .ok (.bipush 21, 2) := by decide +kernel
theorem dX1_give_248 : decode cX1_give 248 = .ok (.aload_n 2, 1) := by decide +kernel
theorem dX1_give_249 : decode cX1_give 249 = .ok (.iload_n 3, 1) := by decide +kernel
theorem dX1_give_250 : decode cX1_give 250 = .ok (.iload 6, 2) := by decide +kernel
theorem dX1_give_252 : decode cX1_give 252 = .ok (.invokevirtual 38, 3) := by decide +kernel
theorem dX1_give_255 : decode cX1_give 255 = .ok (.imul, 1) := by decide +kernel
theorem dX1_give_256 : decode cX1_give 256 = .ok (.ireturn, 1) := by decide +kernel
theorem dX1_give_257 : decode cX1_give 257 = .ok (.iconst 0, 1) := by decide +kernel
theorem dX1_give_258 : decode cX1_give 258 = .ok (.ireturn, 1) := by decide +kernel
theorem dX1_begin_0 : decode cX1_begin 0 = .ok (.aload_n 0, 1) := by decide +kernel
theorem dX1_begin_1 : decode cX1_begin 1 = .ok (.getfield 22, 3) := by decide +kernel
theorem dX1_begin_4 : decode cX1_begin 4 = .ok (.bipush 16, 2) := by decide +kernel
theorem dX1_begin_6 : decode cX1_begin 6 = .ok (.if_icmp .ge 23, 3) := by decide +kernel
theorem dX1_begin_9 : decode cX1_begin 9 = .ok (.aload_n 0, 1) := by decide +kernel
theorem dX1_begin_10 : decode cX1_begin 10 = .ok (.getfield 11, 3) := by decide +kernel
theorem dX1_begin_13 : decode cX1_begin 13 = .ok (.aload_n 0, 1) := by decide +kernel
theorem dX1_begin_14 : decode cX1_begin 14 = .ok (.getfield 22, 3) := by decide +kernel
theorem dX1_begin_17 : decode cX1_begin 17 = .ok (.iload_n 1, 1) := by decide +kernel
theorem dX1_begin_18 : decode cX1_begin 18 = .ok (.iastore, 1) := by decide +kernel
theorem dX1_begin_19 : decode cX1_begin 19 = .ok (.aload_n 0, 1) := by decide +kernel
theorem dX1_begin_20 : decode cX1_begin 20 = .ok (.dup, 1) := by decide +kernel
theorem dX1_begin_21 : decode cX1_begin 21 = .ok (.getfield 22, 3) := by decide +kernel
theorem dX1_begin_24 : decode cX1_begin 24 = .ok (.iconst 1, 1) := by decide +kernel
theorem dX1_begin_25 : decode cX1_begin 25 = .ok (.iadd, 1) := by decide +kernel
theorem dX1_begin_26 : decode cX1_begin 26 = .ok (.putfield 22, 3) := by decide +kernel
theorem dX1_begin_29 : decode cX1_begin 29 = .ok (.return_, 1) := by decide +kernel
theorem dX2_init_0 : decode cX2_init 0 = .ok (.aload_n 0, 1) := by decide +kernel
theorem dX2_init_1 : decode cX2_init 1 = .ok (.invokespecial 3, 3) := by decide +kernel
theorem dX2_init_4 : decode cX2_init 4 = .ok (.aload_n 0, 1) := by decide +kernel
theorem dX2_init_5 : decode cX2_init 5 = .ok (.iconst 4, 1) := by decide +kernel
theorem dX2_init_6 : decode cX2_init 6 = .ok (.newarray .int, 2) := by decide +kernel
theorem dX2_init_8 : decode cX2_init 8 = .ok (.putfield 9, 3) := by decide +kernel
theorem dX2_init_11 : decode cX2_init 11 = .ok (.aload_n 0, 1) := by decide +kernel
theorem dX2_init_12 : decode cX2_init 12 = .ok (.iconst 4, 1) := by decide +kernel
theorem dX2_init_13 : decode cX2_init 13 = .ok (.newarray .int, 2) := by decide +kernel
theorem dX2_init_15 : decode cX2_init 15 = .ok (.putfield 15, 3) := by decide +kernel
theorem dX2_init_18 : decode cX2_init 18 = .ok (.aload_n 0, 1) := by decide +kernel
theorem dX2_init_19 : decode cX2_init 19 = .ok (.iconst 5, 1) := by decide +kernel
theorem dX2_init_20 : decode cX2_init 20 = .ok (.newarray .int, 2) := by decide +kernel
theorem dX2_init_22 : decode cX2_init 22 = .ok (.putfield 18, 3) := by decide +kernel
theorem dX2_init_25 : decode cX2_init 25 = .ok (.aload_n 0, 1) := by decide +kernel
theorem dX2_init_26 : decode cX2_init 26 = .ok (.iconst 5, 1) := by decide +kernel
theorem dX2_init_27 : decode cX2_init 27 = .ok (.newarray .int, 2) := by decide +kernel
theorem dX2_init_29 : decode cX2_init 29 = .ok (.putfield 21, 3) := by decide +kernel
theorem dX2_init_32 : decode cX2_init 32 = .ok (.aload_n 0, 1) := by decide +kernel
theorem dX2_init_33 : decode cX2_init 33 = .ok (.iconst 5, 1) := by decide +kernel
theorem dX2_init_34 : decode cX2_init 34 = .ok (.newarray .int, 2) := by decide +kernel
theorem dX2_init_36 : decode cX2_init 36 = .ok (.putfield 24, 3) := by decide +kernel
theorem dX2_init_39 : decode cX2_init 39 = .ok (.aload_n 0, 1) := by decide +kernel
theorem dX2_init_40 : decode cX2_init 40 = .ok (.iconst 5, 1) := by decide +kernel
theorem dX2_init_41 : decode cX2_init 41 = .ok (.newarray .int, 2) := by decide +kernel
theorem dX2_init_43 : decode cX2_init 43 = .ok (.putfield 27, 3) := by decide +kernel
theorem dX2_init_46 : decode cX2_init 46 = .ok (.return_, 1) := by decide +kernel
theorem dX2_clear_0 : decode cX2_clear 0 = .ok (.aload_n 0, 1) := by decide +kernel
theorem dX2_clear_1 : decode cX2_clear 1 = .ok (.iconst 0, 1) := by decide +kernel
theorem dX2_clear_2 : decode cX2_clear 2 = .ok (.putfield 30, 3) := by decide +kernel
theorem dX2_clear_5 : decode cX2_clear 5 = .ok (.aload_n 0, 1) := by decide +kernel
theorem dX2_clear_6 : decode cX2_clear 6 = .ok (.iconst 0, 1) := by decide +kernel
theorem dX2_clear_7 : decode cX2_clear 7 = .ok (.putfield 34, 3) := by decide +kernel
theorem dX2_clear_10 : decode cX2_clear 10 = .ok (.aload_n 0, 1) := by decide +kernel
theorem dX2_clear_11 : decode cX2_clear 11 = .ok (.iconst 0, 1) := by decide +kernel
theorem dX2_clear_12 : decode cX2_clear 12 = .ok (.putfield 38, 3) := by decide +kernel
theorem dX2_clear_15 : decode cX2_clear 15 = .ok (.aload_n 0, 1) := by decide +kernel
theorem dX2_clear_16 : decode cX2_clear 16 = .ok (.iconst 0, 1) := by decide +kernel
theorem dX2_clear_17 : decode cX2_clear 17 = .ok (.putfield 41, 3) := by decide +kernel
theorem dX2_clear_20 : decode cX2_clear 20 = .ok (.aload_n 0, 1) := by decide +kernel
theorem dX2_clear_21 : decode cX2_clear 21 = .ok (.iconst 0, 1) := by decide +kernel
theorem dX2_clear_22 : decode cX2_clear 22 = .ok (.putfield 44, 3) := by decide +kernel
theorem dX2_clear_25 : decode cX2_clear 25 = .ok (.aload_n 0, 1) := by decide +kernel
theorem dX2_clear_26 : decode cX2_clear 26 = .ok (.iconst 0, 1) := by decide +kernel
theorem dX2_clear_27 : decode cX2_clear 27 = .ok (.putfield 47, 3) := by decide +kernel
theorem dX2_clear_30 : decode cX2_clear 30 = .ok (.return_, 1) := by decide +kernel
theorem dX2_become_0 : decode cX2_become 0 = .ok (.aload_n 0, 1) := by decide +kernel
theorem dX2_become_1 : decode cX2_become 1 = .ok (.aload_n 1, 1) := by decide +kernel
theorem dX2_become_2 : decode cX2_become 2 = .ok (.getfield 30, 3) := by decide +kernel
theorem dX2_become_5 : decode cX2_become 5 = .ok (.putfield 30, 3) := by decide +kernel
theorem dX2_become_8 : decode cX2_become 8 = .ok (.aload_n 0, 1) := by decide +kernel
theorem dX2_become_9 : decode cX2_become 9 = .ok (.aload_n 1, 1) := by decide +kernel
theorem dX2_become_10 : decode cX2_become 10 = .ok (.getfield 34, 3) := by decide +kernel
theorem dX2_become_13 : decode cX2_become 13 = .ok (.putfield 34, 3) := by decide +kernel
theorem dX2_become_16 : decode cX2_become 16 = .ok (.aload_n 0, 1) := by decide +kernel
theorem dX2_become_17 : decode cX2_become 17 = .ok (.aload_n 1, 1) := by decide +kernel
theorem dX2_become_18 : decode cX2_become 18 = .ok (.getfield 38, 3) := by decide +kernel
theorem dX2_become_21 : decode cX2_become 21 = .ok (.putfield 38, 3) := by decide +kernel
theorem dX2_become_24 : decode cX2_become 24 = .ok (.aload_n 0, 1) := by decide +kernel
theorem dX2_become_25 : decode cX2_become 25 = .ok (.aload_n 1, 1) := by decide +kernel
theorem dX2_become_26 : decode cX2_become 26 = .ok (.getfield 41, 3) := by decide +kernel
theorem dX2_become_29 : decode cX2_become 29 = .ok (.putfield 41, 3) := by decide +kernel
theorem dX2_become_32 : decode cX2_become 32 = .ok (.aload_n 0, 1) := by decide +kernel
theorem dX2_become_33 : decode cX2_become 33 = .ok (.aload_n 1, 1) := by decide +kernel
theorem dX2_become_34 : decode cX2_become 34 = .ok (.getfield 44, 3) := by decide +kernel
theorem dX2_become_37 : decode cX2_become 37 = .ok (.putfield 44, 3) := by decide +kernel
theorem dX2_become_40 : decode cX2_become 40 = .ok (.aload_n 0, 1) := by decide +kernel
theorem dX2_become_41 : decode cX2_become 41 = .ok (.aload_n 1, 1) := by decide +kernel
theorem dX2_become_42 : decode cX2_become 42 = .ok (.getfield 47, 3) := by decide +kernel
theorem dX2_become_45 : decode cX2_become 45 = .ok (.putfield 47, 3) := by decide +kernel
theorem dX2_become_48 : decode cX2_become 48 = .ok (.aload_n 1, 1) := by decide +kernel
theorem dX2_become_49 : decode cX2_become 49 = .ok (.getfield 9, 3) := by decide +kernel
theorem dX2_become_52 : decode cX2_become 52 = .ok (.iconst 0, 1) := by decide +kernel
theorem dX2_become_53 : decode cX2_become 53 = .ok (.aload_n 0, 1) := by decide +kernel
theorem dX2_become_54 : decode cX2_become 54 = .ok (.getfield 9, 3) := by decide +kernel
theorem dX2_become_57 : decode cX2_become 57 = .ok (.iconst 0, 1) := by decide +kernel
theorem dX2_become_58 : decode cX2_become 58 = .ok (.iconst 4, 1) := by decide +kernel
theorem dX2_become_59 : decode cX2_become 59 = .ok (.invokestatic 50, 3) := by decide +kernel
theorem dX2_become_62 : decode cX2_become 62 = .ok (.aload_n 1, 1) := by decide +kernel
theorem dX2_become_63 : decode cX2_become 63 = .ok (.getfield 15, 3) := by decide +kernel
theorem dX2_become_66 : decode cX2_become 66 = .ok (.iconst 0, 1) := by decide +kernel
theorem dX2_become_67 : decode cX2_become 67 = .ok (.aload_n 0, 1) := by decide +kernel
theorem dX2_become_68 : decode cX2_become 68 = .ok (.getfield 15, 3) := by decide +kernel
theorem dX2_become_71 : decode cX2_become 71 = .ok (.iconst 0, 1) := by decide +kernel
theorem dX2_become_72 : decode cX2_become 72 = .ok (.iconst 4, 1) := by decide +kernel
theorem dX2_become_73 : decode cX2_become 73 = .ok (.invokestatic 50, 3) := by decide +kernel
theorem dX2_become_76 : decode cX2_become 76 = .ok (.aload_n 1, 1) := by decide +kernel
theorem dX2_become_77 : decode cX2_become 77 = .ok (.getfield 18, 3) := by decide +kernel
theorem dX2_become_80 : decode cX2_become 80 = .ok (.iconst 0, 1) := by decide +kernel
theorem dX2_become_81 : decode cX2_become 81 = .ok (.aload_n 0, 1) := by decide +kernel
theorem dX2_become_82 : decode cX2_become 82 = .ok (.getfield 18, 3) := by decide +kernel
theorem dX2_become_85 : decode cX2_become 85 = .ok (.iconst 0, 1) := by decide +kernel
theorem dX2_become_86 : decode cX2_become 86 = .ok (.iconst 5, 1) := by decide +kernel
theorem dX2_become_87 : decode cX2_become 87 = .ok (.invokestatic 50, 3) := by decide +kernel
theorem dX2_become_90 : decode cX2_become 90 = .ok (.aload_n 1, 1) := by decide +kernel
theorem dX2_become_91 : decode cX2_become 91 = .ok (.getfield 21, 3) := by decide +kernel
theorem dX2_become_94 : decode cX2_become 94 = .ok (.iconst 0, 1) := by decide +kernel
theorem dX2_become_95 : decode cX2_become 95 = .ok (.aload_n 0, 1) := by decide +kernel
theorem dX2_become_96 : decode cX2_become 96 = .ok (.getfield 21, 3) := by decide +kernel
theorem dX2_become_99 : decode cX2_become 99 = .ok (.iconst 0, 1) := by decide +kernel
theorem dX2_become_100 : decode cX2_become 100 = .ok (.iconst 5, 1) := by decide +kernel
theorem dX2_become_101 : decode cX2_become 101 = .ok (.invokestatic 50, 3) := by decide +kernel
theorem dX2_become_104 : decode cX2_become 104 = .ok (.aload_n 1, 1) := by decide +kernel
theorem dX2_become_105 : decode cX2_become 105 = .ok (.getfield 24, 3) := by decide +kernel
theorem dX2_become_108 : decode cX2_become 108 = .ok (.iconst 0, 1) := by decide +kernel
theorem dX2_become_109 : decode cX2_become 109 = .ok (.aload_n 0, 1) := by decide +kernel
theorem dX2_become_110 : decode cX2_become 110 = .ok (.getfield 24, 3) := by decide +kernel
theorem dX2_become_113 : decode cX2_become 113 = .ok (.iconst 0, 1) := by decide +kernel
theorem dX2_become_114 : decode cX2_become 114 = .ok (.iconst 5, 1) := by decide +kernel
theorem dX2_become_115 : decode cX2_become 115 = .ok (.invokestatic 50, 3) := by decide +kernel
theorem dX2_become_118 : decode cX2_become 118 = .ok (.aload_n 1, 1) := by decide +kernel
theorem dX2_become_119 : decode cX2_become 119 = .ok (.getfield 27, 3) := by decide +kernel
theorem dX2_become_122 : decode cX2_become 122 = .ok (.iconst 0, 1) := by decide +kernel
theorem dX2_become_123 : decode cX2_become 123 = .ok (.aload_n 0, 1) := by decide +kernel
theorem dX2_become_124 : decode cX2_become 124 = .ok (.getfield 27, 3) := by decide +kernel
theorem dX2_become_127 : decode cX2_become 127 = .ok (.iconst 0, 1) := by decide +kernel
theorem dX2_become_128 : decode cX2_become 128 = .ok (.iconst 5, 1) := by decide +kernel
theorem dX2_become_129 : decode cX2_become 129 = .ok (.invokestatic 50, 3) := by decide +kernel
theorem dX2_become_132 : decode cX2_become 132 = .ok (.return_, 1) := by decide +kernel
theorem dX2_hasPicture_0 : decode cX2_hasPicture 0 = .ok (.iload_n 1, 1) := by decide +kernel
theorem dX2_hasPicture_1 : decode cX2_hasPicture 1 = .ok (.iconst 0, 1) := by decide +kernel
theorem dX2_hasPicture_2 : decode cX2_hasPicture 2 = .ok (.aload_n 0, 1) := by decide +kernel
theorem dX2_hasPicture_3 : decode cX2_hasPicture 3 = .ok (.getfield 47, 3) := by decide +kernel
theorem dX2_hasPicture_6 : decode cX2_hasPicture 6 = .ok (.iconst 1, 1) := by decide +kernel
theorem dX2_hasPicture_7 : decode cX2_hasPicture 7 = .ok (.isub, 1) := by decide +kernel
theorem dX2_hasPicture_8 : decode cX2_hasPicture 8 = .ok (.invokestatic 56, 3) := by decide +kernel
theorem dX2_hasPicture_11 : decode cX2_hasPicture 11 = .ok (.ireturn, 1) := by decide +kernel
theorem dX2_hasWall_0 : decode cX2_hasWall 0 = .ok (.iload_n 1, 1) := by decide +kernel
theorem dX2_hasWall_1 : decode cX2_hasWall 1 = .ok (.iconst 0, 1) := by decide +kernel
theorem dX2_hasWall_2 : decode cX2_hasWall 2 = .ok (.aload_n 0, 1) := by decide +kernel
theorem dX2_hasWall_3 : decode cX2_hasWall 3 = .ok (.getfield 44, 3) := by decide +kernel
theorem dX2_hasWall_6 : decode cX2_hasWall 6 = .ok (.iconst 1, 1) := by decide +kernel
theorem dX2_hasWall_7 : decode cX2_hasWall 7 = .ok (.isub, 1) := by decide +kernel
theorem dX2_hasWall_8 : decode cX2_hasWall 8 = .ok (.invokestatic 56, 3) := by decide +kernel
theorem dX2_hasWall_11 : decode cX2_hasWall 11 = .ok (.ireturn, 1) := by decide +kernel
theorem dX2_hasRoomOn_0 : decode cX2_hasRoomOn 0 = .ok (.aload_n 0, 1) := by decide +kernel
theorem dX2_hasRoomOn_1 : decode cX2_hasRoomOn 1 = .ok (.iload_n 1, 1) := by decide +kernel
theorem dX2_hasRoomOn_2 : decode cX2_hasRoomOn 2 = .ok (.invokevirtual 60, 3) := by decide +kernel
theorem dX2_hasRoomOn_5 : decode cX2_hasRoomOn 5 = .ok (.invokestatic 64, 3) := by decide +kernel
theorem dX2_hasRoomOn_8 : decode cX2_hasRoomOn 8 = .ok (.aload_n 0, 1) := by decide +kernel
theorem dX2_hasRoomOn_9 : decode cX2_hasRoomOn 9 = .ok (.getfield 34, 3) := by decide +kernel
theorem dX2_hasRoomOn_12 : decode cX2_hasRoomOn 12 = .ok (.if_icmp .ge 7, 3) := by decide +kernel
theorem dX2_hasRoomOn_15 : decode cX2_hasRoomOn 15 = .ok (.iconst 1, 1) := by decide +kernel
theorem dX2_hasRoomOn_16 : decode cX2_hasRoomOn 16 = .ok (.goto 4, 3) := by decide +kernel
theorem dX2_hasRoomOn_19 : decode cX2_hasRoomOn 19 = .ok (.iconst 0, 1) := by decide +kernel
theorem dX2_hasRoomOn_20 : decode cX2_hasRoomOn 20 = .ok (.ireturn, 1) := by decide +kernel
theorem dX2_hungOn_0 : decode cX2_hungOn 0 = .ok (.iconst 0, 1) := by decide +kernel
theorem dX2_hungOn_1 : decode cX2_hungOn 1 = .ok (.istore_n 2, 1) := by decide +kernel
theorem dX2_hungOn_2 : decode cX2_hungOn 2 = .ok (.iconst 0, 1) := by decide +kernel
theorem dX2_hungOn_3 : decode cX2_hungOn 3 = .ok (.istore_n 3, 1) := by decide +kernel
theorem dX2_hungOn_4 : decode cX2_hungOn 4 = .ok (.iload_n 3, 1) := by decide +kernel
theorem dX2_hungOn_5 : decode cX2_hungOn 5 = .ok (.aload_n 0, 1) := by decide +kernel
theorem dX2_hungOn_6 : decode cX2_hungOn 6 = .ok (.getfield 47, 3) := by decide +kernel
theorem dX2_hungOn_9 : decode cX2_hungOn 9 = .ok (.if_icmp .ge 25, 3) := by decide +kernel
theorem dX2_hungOn_12 : decode cX2_hungOn 12 = .ok (.aload_n 0, 1) := by decide +kernel
theorem dX2_hungOn_13 : decode cX2_hungOn 13 = .ok (.getfield 27, 3) := by decide +kernel
theorem dX2_hungOn_16 : decode cX2_hungOn 16 = .ok (.iload_n 3, 1) := by decide +kernel
theorem dX2_hungOn_17 : decode cX2_hungOn 17 = .ok (.iaload, 1) := by decide +kernel
theorem dX2_hungOn_18 : decode cX2_hungOn 18 = .ok (.iload_n 1, 1) := by decide +kernel
theorem dX2_hungOn_19 : decode cX2_hungOn 19 = .ok (.if_icmp .ne 9, 3) := by decide +kernel
theorem dX2_hungOn_22 : decode cX2_hungOn 22 = .ok (.iload_n 2, 1) := by decide +kernel
theorem dX2_hungOn_23 : decode cX2_hungOn 23 = .ok (.iconst 1, 1) := by decide +kernel
theorem dX2_hungOn_24 : decode cX2_hungOn 24 = .ok (.iload_n 3, 1) := by decide +kernel
theorem dX2_hungOn_25 : decode cX2_hungOn 25 = .ok (.ishl, 1) := by decide +kernel
theorem dX2_hungOn_26 : decode cX2_hungOn 26 = .ok (.ior, 1) := by decide +kernel
theorem dX2_hungOn_27 : decode cX2_hungOn 27 = .ok (.istore_n 2, 1) := by decide +kernel
theorem dX2_hungOn_28 : decode cX2_hungOn 28 = .ok (.iinc 3 1, 3) := by decide +kernel
theorem dX2_hungOn_31 : decode cX2_hungOn 31 = .ok (.goto (-27), 3) := by decide +kernel
theorem dX2_hungOn_34 : decode cX2_hungOn 34 = .ok (.iload_n 2, 1) := by decide +kernel
theorem dX2_hungOn_35 : decode cX2_hungOn 35 = .ok (.ireturn, 1) := by decide +kernel
theorem dX2_living_0 : decode cX2_living 0 = .ok (.iconst 0, 1) := by decide +kernel
theorem dX2_living_1 : decode cX2_living 1 = .ok (.istore_n 1, 1) := by decide +kernel
theorem dX2_living_2 : decode cX2_living 2 = .ok (.iconst 0, 1) := by decide +kernel
theorem dX2_living_3 : decode cX2_living 3 = .ok (.istore_n 2, 1) := by decide +kernel
theorem dX2_living_4 : decode cX2_living 4 = .ok (.iload_n 2, 1) := by decide +kernel
theorem dX2_living_5 : decode cX2_living 5 = .ok (.aload_n 0, 1) := by decide +kernel
theorem dX2_living_6 : decode cX2_living 6 = .ok (.getfield 47, 3) := by decide +kernel
theorem dX2_living_9 : decode cX2_living 9 = .ok (.if_icmp .ge 24, 3) := by decide +kernel
theorem dX2_living_12 : decode cX2_living 12 = .ok (.aload_n 0, 1) := by decide +kernel
theorem dX2_living_13 : decode cX2_living 13 = .ok (.getfield 24, 3) := by decide +kernel
theorem dX2_living_16 : decode cX2_living 16 = .ok (.iload_n 2, 1) := by decide +kernel
theorem dX2_living_17 : decode cX2_living 17 = .ok (.iaload, 1) := by decide +kernel
theorem dX2_living_18 : decode cX2_living 18 = .ok (.ifCond .le 9, 3) := by decide +kernel
theorem dX2_living_21 : decode cX2_living 21 = .ok (.iload_n 1, 1) := by decide +kernel
theorem dX2_living_22 : decode cX2_living 22 = .ok (.iconst 1, 1) := by decide +kernel
theorem dX2_living_23 : decode cX2_living 23 = .ok (.iload_n 2, 1) := by decide +kernel
theorem dX2_living_24 : decode cX2_living 24 = .ok (.ishl, 1) := by decide +kernel
theorem dX2_living_25 : decode cX2_living 25 = .ok (.ior, 1) := by decide +kernel
theorem dX2_living_26 : decode cX2_living 26 = .ok (.istore_n 1, 1) := by decide +kernel
theorem dX2_living_27 : decode cX2_living 27 = .ok (.iinc 2 1, 3) := by decide +kernel
theorem dX2_living_30 : decode cX2_living 30 = .ok (.goto (-26), 3) := by decide +kernel
theorem dX2_living_33 : decode cX2_living 33 = .ok (.iload_n 1, 1) := by decide +kernel
theorem dX2_living_34 : decode cX2_living 34 = .ok (.ireturn, 1) := by decide +kernel
theorem dX2_addWall_0 : decode cX2_addWall 0 = .ok (.aload_n 0, 1) := by decide +kernel
theorem dX2_addWall_1 : decode cX2_addWall 1 = .ok (.getfield 44, 3) := by decide +kernel
theorem dX2_addWall_4 : decode cX2_addWall 4 = .ok (.iconst 4, 1) := by decide +kernel
theorem dX2_addWall_5 : decode cX2_addWall 5 = .ok (.if_icmp .ge 33, 3) := by decide +kernel
theorem dX2_addWall_8 : decode cX2_addWall 8 = .ok (.aload_n 0, 1) := by decide +kernel
theorem dX2_addWall_9 : decode cX2_addWall 9 = .ok (.getfield 9, 3) := by decide +kernel
theorem dX2_addWall_12 : decode cX2_addWall 12 = .ok (.aload_n 0, 1) := by decide +kernel
theorem dX2_addWall_13 : decode cX2_addWall 13 = .ok (.getfield 44, 3) := by decide +kernel
theorem dX2_addWall_16 : decode cX2_addWall 16 = .ok (.iload_n 1, 1) := by decide +kernel
theorem dX2_addWall_17 : decode cX2_addWall 17 = .ok (.iastore, 1) := by decide +kernel
theorem dX2_addWall_18 : decode cX2_addWall 18 = .ok (.aload_n 0, 1) := by decide +kernel
theorem dX2_addWall_19 : decode cX2_addWall 19 = .ok (.getfield 15, 3) := by decide +kernel
theorem dX2_addWall_22 : decode cX2_addWall 22 = .ok (.aload_n 0, 1) := by decide +kernel
theorem dX2_addWall_23 : decode cX2_addWall 23 = .ok (.getfield 44, 3) := by decide +kernel
theorem dX2_addWall_26 : decode cX2_addWall 26 = .ok (.iload_n 2, 1) := by decide +kernel
theorem dX2_addWall_27 : decode cX2_addWall 27 = .ok (.iastore, 1) := by decide +kernel
theorem dX2_addWall_28 : decode cX2_addWall 28 = .ok (.aload_n 0, 1) := by decide +kernel
theorem dX2_addWall_29 : decode cX2_addWall 29 = .ok (.dup, 1) := by decide +kernel
theorem dX2_addWall_30 : decode cX2_addWall 30 = .ok (.getfield 44, 3) := by decide +kernel
theorem dX2_addWall_33 : decode cX2_addWall 33 = .ok (.iconst 1, 1) := by decide +kernel
theorem dX2_addWall_34 : decode cX2_addWall 34 = .ok (.iadd, 1) := by decide +kernel
theorem dX2_addWall_35 : decode cX2_addWall 35 = .ok (.putfield 44, 3) := by decide +kernel
theorem dX2_addWall_38 : decode cX2_addWall 38 = .ok (.return_, 1) := by decide +kernel
theorem dX2_addPicture_0 : decode cX2_addPicture 0 = .ok (.aload_n 0, 1) := by decide +kernel
theorem dX2_addPicture_1 : decode cX2_addPicture 1 = .ok (.getfield 47, 3) := by decide +kernel
theorem dX2_addPicture_4 : decode cX2_addPicture 4 = .ok (.iconst 5, 1) := by decide +kernel
theorem dX2_addPicture_5 : decode cX2_addPicture 5 = .ok (.if_icmp .ge 54, 3) := by decide +kernel
theorem dX2_addPicture_8 : decode cX2_addPicture 8 = .ok (.aload_n 0, 1) := by decide +kernel
theorem dX2_addPicture_9 : decode cX2_addPicture 9 = .ok (.getfield 18, 3) := by decide +kernel
theorem dX2_addPicture_12 : decode cX2_addPicture 12 = .ok (.aload_n 0, 1) := by decide +kernel
theorem dX2_addPicture_13 : decode cX2_addPicture 13 = .ok (.getfield 47, 3) := by decide +kernel
theorem dX2_addPicture_16 : decode cX2_addPicture 16 = .ok (.iload_n 1, 1) := by decide +kernel
theorem dX2_addPicture_17 : decode cX2_addPicture 17 = .ok (.iastore, 1) := by decide +kernel
theorem dX2_addPicture_18 : decode cX2_addPicture 18 = .ok (.aload_n 0, 1) := by decide +kernel
theorem dX2_addPicture_19 : decode cX2_addPicture 19 = .ok (.getfield 21, 3) := by decide +kernel
theorem dX2_addPicture_22 : decode cX2_addPicture 22 = .ok (.aload_n 0, 1) := by decide +kernel
theorem dX2_addPicture_23 : decode cX2_addPicture 23 = .ok (.getfield 47, 3) := by decide +kernel
theorem dX2_addPicture_26 : decode cX2_addPicture 26 = .ok (.iload_n 2, 1) := by decide +kernel
theorem dX2_addPicture_27 : decode cX2_addPicture 27 = .ok (.iastore, 1) := by decide +kernel
theorem dX2_addPicture_28 : decode cX2_addPicture 28 = .ok (.aload_n 0, 1) := by decide +kernel
theorem dX2_addPicture_29 : decode cX2_addPicture 29 = .ok (.getfield 24, 3) := by decide +kernel
theorem dX2_addPicture_32 : decode cX2_addPicture 32 = .ok (.aload_n 0, 1) := by decide +kernel
theorem dX2_addPicture_33 : decode cX2_addPicture 33 = .ok (.getfield 47, 3) := by decide +kernel
theorem dX2_addPicture_36 : decode cX2_addPicture 36 = .ok (.iload_n 3, 1) := by decide +kernel
theorem dX2_addPicture_37 : decode cX2_addPicture 37 = .ok (.iastore, 1) := by decide +kernel
theorem dX2_addPicture_38 : decode cX2_addPicture 38 = .ok (.aload_n 0, 1) := by decide +kernel
theorem dX2_addPicture_39 : decode cX2_addPicture 39 = .ok (.getfield 27, 3) := by decide +kernel
theorem dX2_addPicture_42 : decode cX2_addPicture 42 = .ok (.aload_n 0, 1) := by decide +kernel
theorem dX2_addPicture_43 : decode cX2_addPicture 43 = .ok (.getfield 47, 3) := by decide +kernel
theorem dX2_addPicture_46 : decode cX2_addPicture 46 = .ok (.iload 4, 2) := by decide +kernel
theorem dX2_addPicture_48 : decode cX2_addPicture 48 = .ok (.iastore, 1) := by decide +kernel
theorem dX2_addPicture_49 : decode cX2_addPicture 49 = .ok (.aload_n 0, 1) := by decide +kernel
theorem dX2_addPicture_50 : decode cX2_addPicture 50 = .ok (.dup, 1) := by decide +kernel
theorem dX2_addPicture_51 : decode cX2_addPicture 51 = .ok (.getfield 47, 3) := by decide +kernel
theorem dX2_addPicture_54 : decode cX2_addPicture 54 = .ok (.iconst 1, 1) := by decide +kernel
theorem dX2_addPicture_55 : decode cX2_addPicture 55 = .ok (.iadd, 1) := by decide +kernel
theorem dX2_addPicture_56 : decode cX2_addPicture 56 = .ok (.putfield 47, 3) := by decide +kernel
theorem dX2_addPicture_59 : decode cX2_addPicture 59 = .ok (.return_, 1) := by decide +kernel
theorem dX3_init_0 : decode cX3_init 0 = .ok (.aload_n 0, 1) := by decide +kernel
theorem dX3_init_1 : decode cX3_init 1 = .ok (.invokespecial 3, 3) := by decide +kernel
theorem dX3_init_4 : decode cX3_init 4 = .ok (.return_, 1) := by decide +kernel
theorem dX3_takeFrom_0 : decode cX3_takeFrom 0 = .ok (.aload_n 0, 1) := by decide +kernel
theorem dX3_takeFrom_1 : decode cX3_takeFrom 1 = .ok (.aload_n 1, 1) := by decide +kernel
theorem dX3_takeFrom_2 : decode cX3_takeFrom 2 = .ok (.getfield 9, 3) := by decide +kernel
theorem dX3_takeFrom_5 : decode cX3_takeFrom 5 = .ok (.iload_n 2, 1) := by decide +kernel
theorem dX3_takeFrom_6 : decode cX3_takeFrom 6 = .ok (.iaload, 1) := by decide +kernel
theorem dX3_takeFrom_7 : decode cX3_takeFrom 7 = .ok (.putfield 15, 3) := by decide +kernel
theorem dX3_takeFrom_10 : decode cX3_takeFrom 10 = .ok (.aload_n 0, 1) := by decide +kernel
theorem dX3_takeFrom_11 : decode cX3_takeFrom 11 = .ok (.aload_n 1, 1) := by decide +kernel
theorem dX3_takeFrom_12 : decode cX3_takeFrom 12 = .ok (.getfield 21, 3) := by decide +kernel
theorem dX3_takeFrom_15 : decode cX3_takeFrom 15 = .ok (.iload_n 2, 1) := by decide +kernel
theorem dX3_takeFrom_16 : decode cX3_takeFrom 16 = .ok (.iaload, 1) := by decide +kernel
theorem dX3_takeFrom_17 : decode cX3_takeFrom 17 = .ok (.putfield 24, 3) := by decide +kernel
theorem dX3_takeFrom_20 : decode cX3_takeFrom 20 = .ok (.aload_n 0, 1) := by decide +kernel
theorem dX3_takeFrom_21 : decode cX3_takeFrom 21 = .ok (.aload_n 1, 1) := by decide +kernel
theorem dX3_takeFrom_22 : decode cX3_takeFrom 22 = .ok (.getfield 27, 3) := by decide +kernel
theorem dX3_takeFrom_25 : decode cX3_takeFrom 25 = .ok (.iload_n 2, 1) := by decide +kernel
theorem dX3_takeFrom_26 : decode cX3_takeFrom 26 = .ok (.iaload, 1) := by decide +kernel
theorem dX3_takeFrom_27 : decode cX3_takeFrom 27 = .ok (.putfield 30, 3) := by decide +kernel
theorem dX3_takeFrom_30 : decode cX3_takeFrom 30 = .ok (.aload_n 0, 1) := by decide +kernel
theorem dX3_takeFrom_31 : decode cX3_takeFrom 31 = .ok (.aload_n 1, 1) := by decide +kernel
theorem dX3_takeFrom_32 : decode cX3_takeFrom 32 = .ok (.getfield 32, 3) := by decide +kernel
theorem dX3_takeFrom_35 : decode cX3_takeFrom 35 = .ok (.putfield 35, 3) := by decide +kernel
theorem dX3_takeFrom_38 : decode cX3_takeFrom 38 = .ok (.aload_n 0, 1) := by decide +kernel
theorem dX3_takeFrom_39 : decode cX3_takeFrom 39 = .ok (.aload_n 1, 1) := by decide +kernel
theorem dX3_takeFrom_40 : decode cX3_takeFrom 40 = .ok (.aload_n 1, 1) := by decide +kernel
theorem dX3_takeFrom_41 : decode cX3_takeFrom 41 = .ok (.getfield 36, 3) := by decide +kernel
theorem dX3_takeFrom_44 : decode cX3_takeFrom 44 = .ok (.iload_n 2, 1) := by decide +kernel
theorem dX3_takeFrom_45 : decode cX3_takeFrom 45 = .ok (.iaload, 1) := by decide +kernel
theorem dX3_takeFrom_46 : decode cX3_takeFrom 46 = .ok (.invokevirtual 39, 3) := by decide +kernel
theorem dX3_takeFrom_49 : decode cX3_takeFrom 49 = .ok (.return_, 1) := by decide +kernel
theorem dX3_takeWall_0 : decode cX3_takeWall 0 = .ok (.aload_n 1, 1) := by decide +kernel
theorem dX3_takeWall_1 : decode cX3_takeWall 1 = .ok (.iload_n 2, 1) := by decide +kernel
theorem dX3_takeWall_2 : decode cX3_takeWall 2 = .ok (.invokevirtual 43, 3) := by decide +kernel
theorem dX3_takeWall_5 : decode cX3_takeWall 5 = .ok (.ifCond .eq 23, 3) := by decide +kernel
theorem dX3_takeWall_8 : decode cX3_takeWall 8 = .ok (.aload_n 0, 1) := by decide +kernel
theorem dX3_takeWall_9 : decode cX3_takeWall 9 = .ok (.aload_n 1, 1) := by decide +kernel
theorem dX3_takeWall_10 : decode cX3_takeWall 10 = .ok (.getfield 47, 3) := by decide +kernel
theorem dX3_takeWall_13 : decode cX3_takeWall 13 = .ok (.iload_n 2, 1) := by decide +kernel
theorem dX3_takeWall_14 : decode cX3_takeWall 14 = .ok (.iaload, 1) := by decide +kernel
theorem dX3_takeWall_15 : decode cX3_takeWall 15 = .ok (.putfield 50, 3) := by decide +kernel
theorem dX3_takeWall_18 : decode cX3_takeWall 18 = .ok (.aload_n 0, 1) := by decide +kernel
theorem dX3_takeWall_19 : decode cX3_takeWall 19 = .ok (.aload_n 1, 1) := by decide +kernel
theorem dX3_takeWall_20 : decode cX3_takeWall 20 = .ok (.getfield 53, 3) := by decide +kernel
theorem dX3_takeWall_23 : decode cX3_takeWall 23 = .ok (.iload_n 2, 1) := by decide +kernel
theorem dX3_takeWall_24 : decode cX3_takeWall 24 = .ok (.iaload, 1) := by decide +kernel
theorem dX3_takeWall_25 : decode cX3_takeWall 25 = .ok (.putfield 56, 3) := by decide +kernel
theorem dX3_takeWall_28 : decode cX3_takeWall 28 = .ok (.return_, 1) := by decide +kernel
theorem dX3_cellsBehind_0 : decode cX3_cellsBehind 0 = .ok (.iconst 0, 1) := by decide +kernel
theorem dX3_cellsBehind_1 : decode cX3_cellsBehind 1 = .ok (.aload_n 0, 1) := by decide +kernel
theorem dX3_cellsBehind_2 : decode cX3_cellsBehind 2 = .ok (.getfield 30, 3) := by decide +kernel
theorem dX3_cellsBehind_5 : decode cX3_cellsBehind 5 = .ok (.aload_n 0, 1) := by decide +kernel
theorem dX3_cellsBehind_6 : decode cX3_cellsBehind 6 = .ok (.iload_n 1, 1) := by decide +kernel
theorem dX3_cellsBehind_7 : decode cX3_cellsBehind 7 = .ok (.invokevirtual 59, 3) := by decide +kernel
theorem dX3_cellsBehind_10 : decode cX3_cellsBehind 10 = .ok (.isub, 1) := by decide +kernel
theorem dX3_cellsBehind_11 : decode cX3_cellsBehind 11 = .ok (.invokestatic 63, 3) := by decide +kernel
theorem dX3_cellsBehind_14 : decode cX3_cellsBehind 14 = .ok (.ireturn, 1) := by decide +kernel
theorem dX3_fadesIn_0 : decode cX3_fadesIn 0 = .ok (.aload_n 0, 1) := by decide +kernel
theorem dX3_fadesIn_1 : decode cX3_fadesIn 1 = .ok (.getfield 15, 3) := by decide +kernel
theorem dX3_fadesIn_4 : decode cX3_fadesIn 4 = .ok (.tableswitch 68 1 4 #[32, 39, 48, 59], 32) := by decide +kernel
theorem dX3_fadesIn_36 : decode cX3_fadesIn 36 = .ok (.iload_n 1, 1) := by decide +kernel
theorem dX3_fadesIn_37 : decode cX3_fadesIn 37 = .ok (.aload_n 0, 1) := by decide +kernel
theorem dX3_fadesIn_38 : decode cX3_fadesIn 38 = .ok (.invokevirtual 69, 3) := by decide +kernel
theorem dX3_fadesIn_41 : decode cX3_fadesIn 41 = .ok (.imul, 1) := by decide +kernel
theorem dX3_fadesIn_42 : decode cX3_fadesIn 42 = .ok (.ireturn, 1) := by decide +kernel
theorem dX3_fadesIn_43 : decode cX3_fadesIn 43 = .ok (.iload_n 1, 1) := by decide +kernel
theorem dX3_fadesIn_44 : decode cX3_fadesIn 44 = .ok (.iconst 2, 1) := by decide +kernel
theorem dX3_fadesIn_45 : decode cX3_fadesIn 45 = .ok (.imul, 1) := by decide +kernel
theorem dX3_fadesIn_46 : decode cX3_fadesIn 46 = .ok (.aload_n 0, 1) := by decide +kernel
theorem dX3_fadesIn_47 : decode cX3_fadesIn 47 = .ok (.invokevirtual 69, 3) := by decide +kernel
theorem dX3_fadesIn_50 : decode cX3_fadesIn 50 = .ok (.imul, 1) := by decide +kernel
theorem dX3_fadesIn_51 : decode cX3_fadesIn 51 = .ok (.ireturn, 1) := by decide +kernel
theorem dX3_fadesIn_52 : decode cX3_fadesIn 52 = .ok (.aload_n 0, 1) := by decide +kernel
theorem dX3_fadesIn_53 : decode cX3_fadesIn 53 = .ok (.iload_n 1, 1) := by decide +kernel
theorem dX3_fadesIn_54 : decode cX3_fadesIn 54 = .ok (.invokevirtual 73, 3) := by decide +kernel
theorem dX3_fadesIn_57 : decode cX3_fadesIn 57 = .ok (.aload_n 0, 1) := by decide +kernel
theorem dX3_fadesIn_58 : decode cX3_fadesIn 58 = .ok (.invokevirtual 69, 3) := by decide +kernel
theorem dX3_fadesIn_61 : decode cX3_fadesIn 61 = .ok (.imul, 1) := by decide +kernel
theorem dX3_fadesIn_62 : decode cX3_fadesIn 62 = .ok (.ireturn, 1) := by decide +kernel
theorem dX3_fadesIn_63 : decode cX3_fadesIn 63 = .ok (.iload_n 1, 1) := by decide +kernel
theorem dX3_fadesIn_64 : decode cX3_fadesIn 64 = .ok (.aload_n 0, 1) := by decide +kernel
theorem dX3_fadesIn_65 : decode cX3_fadesIn 65 = .ok (.getfield 56, 3) := by decide +kernel
theorem dX3_fadesIn_68 : decode cX3_fadesIn 68 = .ok (.iconst 2, 1) := by decide +kernel
theorem dX3_fadesIn_69 : decode cX3_fadesIn 69 = .ok (.idiv, 1) := by decide +kernel
theorem dX3_fadesIn_70 : decode cX3_fadesIn 70 = .ok (.imul, 1) := by decide +kernel
theorem dX3_fadesIn_71 : decode cX3_fadesIn 71 = .ok (.ireturn, 1) := by decide +kernel
theorem dX3_fadesIn_72 : decode cX3_fadesIn 72 = .ok (.iconst 0, 1) := by decide +kernel
theorem dX3_fadesIn_73 : decode cX3_fadesIn 73 = .ok (.ireturn, 1) := by decide +kernel
theorem dX3_fadesAsOil_0 : decode cX3_fadesAsOil 0 = .ok (.aload_n 0, 1) := by decide +kernel
theorem dX3_fadesAsOil_1 : decode cX3_fadesAsOil 1 = .ok (.getfield 24, 3) := by decide +kernel
theorem dX3_fadesAsOil_4 : decode cX3_fadesAsOil 4 = .ok (.iconst 1, 1) := by decide +kernel
theorem dX3_fadesAsOil_5 : decode cX3_fadesAsOil 5 = .ok (.if_icmp .ge 7, 3) := by decide +kernel
theorem dX3_fadesAsOil_8 : decode cX3_fadesAsOil 8 = .ok (.iconst 0, 1) := by decide +kernel
theorem dX3_fadesAsOil_9 : decode cX3_fadesAsOil 9 = .ok (.goto 14, 3) := by decide +kernel
theorem dX3_fadesAsOil_12 : decode cX3_fadesAsOil 12 = .ok (.iconst 1, 1) := by decide +kernel
theorem dX3_fadesAsOil_13 : decode cX3_fadesAsOil 13 = .ok (.aload_n 0, 1) := by decide +kernel
theorem dX3_fadesAsOil_14 : decode cX3_fadesAsOil 14 = .ok (.getfield 50, 3) := by decide +kernel
theorem dX3_fadesAsOil_17 : decode cX3_fadesAsOil 17 = .ok (.aload_n 0, 1) := by decide +kernel
theorem dX3_fadesAsOil_18 : decode cX3_fadesAsOil 18 = .ok (.getfield 24, 3) := by decide +kernel
theorem dX3_fadesAsOil_21 : decode cX3_fadesAsOil 21 = .ok (.idiv, 1) := by decide +kernel
theorem dX3_fadesAsOil_22 : decode cX3_fadesAsOil 22 = .ok (.iadd, 1) := by decide +kernel
theorem dX3_fadesAsOil_23 : decode cX3_fadesAsOil 23 = .ok (.ireturn, 1) := by decide +kernel
theorem dX3_yearsThatSkillDivides_0 : decode cX3_yearsThatSkillDivides 0 = .ok (.aload_n 0, 1) := by decide +kernel
theorem dX3_yearsThatSkillDivides_1 : decode cX3_yearsThatSkillDivides 1 = .ok (.getfield 24, 3) := by decide +kernel
theorem dX3_yearsThatSkillDivides_4 : decode cX3_yearsThatSkillDivides 4 = .ok (.iconst 1, 1) := by decide +kernel
theorem dX3_yearsThatSkillDivides_5 : decode cX3_yearsThatSkillDivides 5 = .ok (.if_icmp .ge 5, 3) := by decide +kernel
theorem dX3_yearsThatSkillDivides_8 : decode cX3_yearsThatSkillDivides 8 = .ok (.iconst 0, 1) := by decide +kernel
theorem dX3_yearsThatSkillDivides_9 : decode cX3_yearsThatSkillDivides 9 = .ok (.ireturn, 1) := by decide +kernel
theorem dX3_yearsThatSkillDivides_10 : decode cX3_yearsThatSkillDivides 10 = .ok (.aload_n 0, 1) := by decide +kernel
theorem dX3_yearsThatSkillDivides_11 : decode cX3_yearsThatSkillDivides 11 = .ok (.getfield 35, 3) := by decide +kernel
theorem dX3_yearsThatSkillDivides_14 : decode cX3_yearsThatSkillDivides 14 = .ok (.iload_n 1, 1) := by decide +kernel
theorem dX3_yearsThatSkillDivides_15 : decode cX3_yearsThatSkillDivides 15 = .ok (.iadd, 1) := by decide +kernel
theorem dX3_yearsThatSkillDivides_16 : decode cX3_yearsThatSkillDivides 16 = .ok (.aload_n 0, 1) := by decide +kernel
theorem dX3_yearsThatSkillDivides_17 : decode cX3_yearsThatSkillDivides 17 = .ok (.getfield 24, 3) := by decide +kernel
theorem dX3_yearsThatSkillDivides_20 : decode cX3_yearsThatSkillDivides 20 = .ok (.iadd, 1) := by decide +kernel
theorem dX3_yearsThatSkillDivides_21 : decode cX3_yearsThatSkillDivides 21 = .ok (.iconst 1, 1) := by decide +kernel
theorem dX3_yearsThatSkillDivides_22 : decode cX3_yearsThatSkillDivides 22 = .ok (.isub, 1) := by decide +kernel
theorem dX3_yearsThatSkillDivides_23 : decode cX3_yearsThatSkillDivides 23 = .ok (.aload_n 0, 1) := by decide +kernel
theorem dX3_yearsThatSkillDivides_24 : decode cX3_yearsThatSkillDivides 24 = .ok (.getfield 24, 3) := by decide +kernel
theorem dX3_yearsThatSkillDivides_27 : decode cX3_yearsThatSkillDivides 27 = .ok (.idiv, 1) := by decide +kernel
theorem dX3_yearsThatSkillDivides_28 : decode cX3_yearsThatSkillDivides 28 = .ok (.aload_n 0, 1) := by decide +kernel
theorem dX3_yearsThatSkillDivides_29 : decode cX3_yearsThatSkillDivides 29 = .ok (.getfield 35, 3) := by decide +kernel
theorem dX3_yearsThatSkillDivides_32 : decode cX3_yearsThatSkillDivides 32 = .ok (.aload_n 0, 1) := by decide +kernel
theorem dX3_yearsThatSkillDivides_33 : decode cX3_yearsThatSkillDivides 33 = .ok (.getfield 24, 3) := by decide +kernel
theorem dX3_yearsThatSkillDivides_36 : decode cX3_yearsThatSkillDivides 36 = .ok (.iadd, 1) := by decide +kernel
theorem dX3_yearsThatSkillDivides_37 : decode cX3_yearsThatSkillDivides 37 = .ok (.iconst 1, 1) := by decide +kernel
theorem dX3_yearsThatSkillDivides_38 : decode cX3_yearsThatSkillDivides 38 = .ok (.isub, 1) := by decide +kernel
theorem dX3_yearsThatSkillDivides_39 : decode cX3_yearsThatSkillDivides 39 = .ok (.aload_n 0, 1) := by decide +kernel
theorem dX3_yearsThatSkillDivides_40 : decode cX3_yearsThatSkillDivides 40 = .ok (.getfield 24, 3) := by decide +kernel
theorem dX3_yearsThatSkillDivides_43 : decode cX3_yearsThatSkillDivides 43 = .ok (.idiv, 1) := by decide +kernel
theorem dX3_yearsThatSkillDivides_44 : decode cX3_yearsThatSkillDivides 44 = .ok (.isub, 1) := by decide +kernel
theorem dX3_yearsThatSkillDivides_45 : decode cX3_yearsThatSkillDivides 45 = .ok (.ireturn, 1) := by decide +kernel
theorem dX4_init_0 : decode cX4_init 0 = .ok (.aload_n 0, 1) := by decide +kernel
theorem dX4_init_1 : decode cX4_init 1 = .ok (.invokespecial 1, 3) := by decide +kernel
theorem dX4_init_4 : decode cX4_init 4 = .ok (.aload_n 0, 1) := by decide +kernel
theorem dX4_init_5 : decode cX4_init 5 = .ok (.sipush 320, 3) := by decide +kernel
theorem dX4_init_8 : decode cX4_init 8 = .ok (.newarray .int, 2) := by decide +kernel
theorem dX4_init_10 : decode cX4_init 10 = .ok (.putfield 9, 3) := by decide +kernel
theorem dX4_init_13 : decode cX4_init 13 = .ok (.aload_n 0, 1) := by decide +kernel
theorem dX4_init_14 : decode cX4_init 14 = .ok (.bipush 8, 2) := by decide +kernel
theorem dX4_init_16 : decode cX4_init 16 = .ok (.newarray .int, 2) := by decide +kernel
theorem dX4_init_18 : decode cX4_init 18 = .ok (.putfield 13, 3) := by decide +kernel
theorem dX4_init_21 : decode cX4_init 21 = .ok (.aload_n 0, 1) := by decide +kernel
theorem dX4_init_22 : decode cX4_init 22 = .ok (.bipush 8, 2) := by decide +kernel
theorem dX4_init_24 : decode cX4_init 24 = .ok (.newarray .int, 2) := by decide +kernel
theorem dX4_init_26 : decode cX4_init 26 = .ok (.putfield 16, 3) := by decide +kernel
theorem dX4_init_29 : decode cX4_init 29 = .ok (.iconst 0, 1) := by decide +kernel
theorem dX4_init_30 : decode cX4_init 30 = .ok (.istore_n 1, 1) := by decide +kernel
theorem dX4_init_31 : decode cX4_init 31 = .ok (.iload_n 1, 1) := by decide +kernel
theorem dX4_init_32 : decode cX4_init 32 = .ok (.bipush 8, 2) := by decide +kernel
theorem dX4_init_34 : decode cX4_init 34 = .ok (.if_icmp .ge 16, 3) := by decide +kernel
theorem dX4_init_37 : decode cX4_init 37 = .ok (.aload_n 0, 1) := by decide +kernel
theorem dX4_init_38 : decode cX4_init 38 = .ok (.getfield 13, 3) := by decide +kernel
theorem dX4_init_41 : decode cX4_init 41 = .ok (.iload_n 1, 1) := by decide +kernel
theorem dX4_init_42 : decode cX4_init 42 = .ok (.iconst (-1), 1) := by decide +kernel
theorem dX4_init_43 : decode cX4_init 43 = .ok (.iastore, 1) := by decide +kernel
theorem dX4_init_44 : decode cX4_init 44 = .ok (.iinc 1 1, 3) := by decide +kernel
theorem dX4_init_47 : decode cX4_init 47 = .ok (.goto (-16), 3) := by decide +kernel
theorem dX4_init_50 : decode cX4_init 50 = .ok (.return_, 1) := by decide +kernel
theorem dX4_isRow_0 : decode cX4_isRow 0 = .ok (.iload_n 1, 1) := by decide +kernel
theorem dX4_isRow_1 : decode cX4_isRow 1 = .ok (.iconst 0, 1) := by decide +kernel
theorem dX4_isRow_2 : decode cX4_isRow 2 = .ok (.bipush 7, 2) := by decide +kernel
theorem dX4_isRow_4 : decode cX4_isRow 4 = .ok (.invokestatic 19, 3) := by decide +kernel
theorem dX4_isRow_7 : decode cX4_isRow 7 = .ok (.ireturn, 1) := by decide +kernel
theorem dX4_isLane_0 : decode cX4_isLane 0 = .ok (.iload_n 1, 1) := by decide +kernel
theorem dX4_isLane_1 : decode cX4_isLane 1 = .ok (.iconst 0, 1) := by decide +kernel
theorem dX4_isLane_2 : decode cX4_isLane 2 = .ok (.iconst 2, 1) := by decide +kernel
theorem dX4_isLane_3 : decode cX4_isLane 3 = .ok (.invokestatic 19, 3) := by decide +kernel
theorem dX4_isLane_6 : decode cX4_isLane 6 = .ok (.ireturn, 1) := by decide +kernel
theorem dX4_isMissing_0 : decode cX4_isMissing 0 = .ok (.aload_n 0, 1) := by decide +kernel
theorem dX4_isMissing_1 : decode cX4_isMissing 1 = .ok (.getfield 13, 3) := by decide +kernel
theorem dX4_isMissing_4 : decode cX4_isMissing 4 = .ok (.iload_n 1, 1) := by decide +kernel
theorem dX4_isMissing_5 : decode cX4_isMissing 5 = .ok (.iaload, 1) := by decide +kernel
theorem dX4_isMissing_6 : decode cX4_isMissing 6 = .ok (.iconst (-1), 1) := by decide +kernel
theorem dX4_isMissing_7 : decode cX4_isMissing 7 = .ok (.if_icmp .ne 7, 3) := by decide +kernel
theorem dX4_isMissing_10 : decode cX4_isMissing 10 = .ok (.iconst 1, 1) := by decide +kernel
theorem dX4_isMissing_11 : decode cX4_isMissing 11 = .ok (.goto 4, 3) := by decide +kernel
theorem dX4_isMissing_14 : decode cX4_isMissing 14 = .ok (.iconst 0, 1) := by decide +kernel
theorem dX4_isMissing_15 : decode cX4_isMissing 15 = .ok (.ireturn, 1) := by decide +kernel
theorem dX4_areOfOneLane_0 : decode cX4_areOfOneLane 0 = .ok (.aload_n 0, 1) := by decide +kernel
theorem dX4_areOfOneLane_1 : decode cX4_areOfOneLane 1 = .ok (.getfield 13, 3) := by decide +kernel
theorem dX4_areOfOneLane_4 : decode cX4_areOfOneLane 4 = .ok (.iload_n 1, 1) := by decide +kernel
theorem dX4_areOfOneLane_5 : decode cX4_areOfOneLane 5 = .ok (.iaload, 1) := by decide +kernel
theorem dX4_areOfOneLane_6 : decode cX4_areOfOneLane 6 = .ok (.aload_n 0, 1) := by decide +kernel
theorem dX4_areOfOneLane_7 : decode cX4_areOfOneLane 7 = .ok (.getfield 13, 3) := by decide +kernel
theorem dX4_areOfOneLane_10 : decode cX4_areOfOneLane 10 = .ok (.iload_n 2, 1) := by decide +kernel
theorem dX4_areOfOneLane_11 : decode cX4_areOfOneLane 11 = .ok (.iaload, 1) := by decide +kernel
theorem dX4_areOfOneLane_12 : decode cX4_areOfOneLane 12 = .ok (.if_icmp .ne 7, 3) := by decide +kernel
theorem dX4_areOfOneLane_15 : decode cX4_areOfOneLane 15 = .ok (.iconst 1, 1) := by decide +kernel
theorem dX4_areOfOneLane_16 : decode cX4_areOfOneLane 16 = .ok (.goto 4, 3) := by decide +kernel
theorem dX4_areOfOneLane_19 : decode cX4_areOfOneLane 19 = .ok (.iconst 0, 1) := by decide +kernel
theorem dX4_areOfOneLane_20 : decode cX4_areOfOneLane 20 = .ok (.ireturn, 1) := by decide +kernel
theorem dX4_hasPlaces_0 : decode cX4_hasPlaces 0 = .ok (.iload_n 2, 1) := by decide +kernel
theorem dX4_hasPlaces_1 : decode cX4_hasPlaces 1 = .ok (.ifCond .lt 33, 3) := by decide +kernel
theorem dX4_hasPlaces_4 : decode cX4_hasPlaces 4 = .ok (.iload_n 3, 1) := by decide +kernel
theorem dX4_hasPlaces_5 : decode cX4_hasPlaces 5 = .ok (.ifCond .lt 29, 3) := by decide +kernel
theorem dX4_hasPlaces_8 : decode cX4_hasPlaces 8 = .ok (.iload_n 3, 1) := by decide +kernel
theorem dX4_hasPlaces_9 : decode cX4_hasPlaces 9 = .ok (.aload_n 0, 1) := by decide +kernel
theorem dX4_hasPlaces_10 : decode cX4_hasPlaces 10 = .ok (.getfield 16, 3) := by decide +kernel
theorem dX4_hasPlaces_13 : decode cX4_hasPlaces 13 = .ok (.iload_n 1, 1) := by decide +kernel
theorem dX4_hasPlaces_14 : decode cX4_hasPlaces 14 = .ok (.iaload, 1) := by decide +kernel
theorem dX4_hasPlaces_15 : decode cX4_hasPlaces 15 = .ok (.if_icmp .gt 19, 3) := by decide +kernel
theorem dX4_hasPlaces_18 : decode cX4_hasPlaces 18 = .ok (.iload_n 2, 1) := by decide +kernel
theorem dX4_hasPlaces_19 : decode cX4_hasPlaces 19 = .ok (.aload_n 0, 1) := by decide +kernel
theorem dX4_hasPlaces_20 : decode cX4_hasPlaces 20 = .ok (.getfield 16, 3) := by decide +kernel
theorem dX4_hasPlaces_23 : decode cX4_hasPlaces 23 = .ok (.iload_n 1, 1) := by decide +kernel
theorem dX4_hasPlaces_24 : decode cX4_hasPlaces 24 = .ok (.iaload, 1) := by decide +kernel
theorem dX4_hasPlaces_25 : decode cX4_hasPlaces 25 = .ok (.iload_n 3, 1) := by decide +kernel
theorem dX4_hasPlaces_26 : decode cX4_hasPlaces 26 = .ok (.isub, 1) := by decide +kernel
theorem dX4_hasPlaces_27 : decode cX4_hasPlaces 27 = .ok (.if_icmp .gt 7, 3) := by decide +kernel
theorem dX4_hasPlaces_30 : decode cX4_hasPlaces 30 = .ok (.iconst 1, 1) := by decide +kernel
theorem dX4_hasPlaces_31 : decode cX4_hasPlaces 31 = .ok (.goto 4, 3) := by decide +kernel
theorem dX4_hasPlaces_34 : decode cX4_hasPlaces 34 = .ok (.iconst 0, 1) := by decide +kernel
theorem dX4_hasPlaces_35 : decode cX4_hasPlaces 35 = .ok (.ireturn, 1) := by decide +kernel
theorem dX4_make_0 : decode cX4_make 0 = .ok (.aload_n 0, 1) := by decide +kernel
theorem dX4_make_1 : decode cX4_make 1 = .ok (.getfield 13, 3) := by decide +kernel
theorem dX4_make_4 : decode cX4_make 4 = .ok (.iload_n 1, 1) := by decide +kernel
theorem dX4_make_5 : decode cX4_make 5 = .ok (.iload_n 2, 1) := by decide +kernel
theorem dX4_make_6 : decode cX4_make 6 = .ok (.iastore, 1) := by decide +kernel
theorem dX4_make_7 : decode cX4_make 7 = .ok (.aload_n 0, 1) := by decide +kernel
theorem dX4_make_8 : decode cX4_make 8 = .ok (.getfield 16, 3) := by decide +kernel
theorem dX4_make_11 : decode cX4_make 11 = .ok (.iload_n 1, 1) := by decide +kernel
theorem dX4_make_12 : decode cX4_make 12 = .ok (.iload_n 3, 1) := by decide +kernel
theorem dX4_make_13 : decode cX4_make 13 = .ok (.iastore, 1) := by decide +kernel
theorem dX4_make_14 : decode cX4_make 14 = .ok (.iconst 0, 1) := by decide +kernel
theorem dX4_make_15 : decode cX4_make 15 = .ok (.istore 4, 2) := by decide +kernel
theorem dX4_make_17 : decode cX4_make 17 = .ok (.iload 4, 2) := by decide +kernel
theorem dX4_make_19 : decode cX4_make 19 = .ok (.iload_n 3, 1) := by decide +kernel
theorem dX4_make_20 : decode cX4_make 20 = .ok (.if_icmp .ge 29, 3) := by decide +kernel
theorem dX4_make_23 : decode cX4_make 23 = .ok (.iload 4, 2) := by decide +kernel
theorem dX4_make_25 : decode cX4_make 25 = .ok (.bipush 40, 2) := by decide +kernel
theorem dX4_make_27 : decode cX4_make 27 = .ok (.if_icmp .ge 22, 3) := by decide +kernel
theorem dX4_make_30 : decode cX4_make 30 = .ok (.aload_n 0, 1) := by decide +kernel
theorem dX4_make_31 : decode cX4_make 31 = .ok (.getfield 9, 3) := by decide +kernel
theorem dX4_make_34 : decode cX4_make 34 = .ok (.iload_n 1, 1) := by decide +kernel
theorem dX4_make_35 : decode cX4_make 35 = .ok (.bipush 40, 2) := by decide +kernel
theorem dX4_make_37 : decode cX4_make 37 = .ok (.imul, 1) := by decide +kernel
theorem dX4_make_38 : decode cX4_make 38 = .ok (.iload 4, 2) := by decide +kernel
theorem dX4_make_40 : decode cX4_make 40 = .ok (.iadd, 1) := by decide +kernel
theorem dX4_make_41 : decode cX4_make 41 = .ok (.iconst 0, 1) := by decide +kernel
theorem dX4_make_42 : decode cX4_make 42 = .ok (.iastore, 1) := by decide +kernel
theorem dX4_make_43 : decode cX4_make 43 = .ok (.iinc 4 1, 3) := by decide +kernel
theorem dX4_make_46 : decode cX4_make 46 = .ok (.goto (-29), 3) := by decide +kernel
theorem dX4_make_49 : decode cX4_make 49 = .ok (.return_, 1) := by decide +kernel
theorem dX4_put_0 : decode cX4_put 0 = .ok (.iload_n 3, 1) := by decide +kernel
theorem dX4_put_1 : decode cX4_put 1 = .ok (.istore 4, 2) := by decide +kernel
theorem dX4_put_3 : decode cX4_put 3 = .ok (.aload_n 0, 1) := by decide +kernel
theorem dX4_put_4 : decode cX4_put 4 = .ok (.getfield 13, 3) := by decide +kernel
theorem dX4_put_7 : decode cX4_put 7 = .ok (.iload_n 1, 1) := by decide +kernel
theorem dX4_put_8 : decode cX4_put 8 = .ok (.iaload, 1) := by decide +kernel
theorem dX4_put_9 : decode cX4_put 9 = .ok (.ifCond .ne 10, 3) := by decide +kernel
theorem dX4_put_12 : decode cX4_put 12 = .ok (.iload_n 3, 1) := by decide +kernel
theorem dX4_put_13 : decode cX4_put 13 = .ok (.i2b, 1) := by decide +kernel
theorem dX4_put_14 : decode cX4_put 14 = .ok (.istore 4, 2) := by decide +kernel
theorem dX4_put_16 : decode cX4_put 16 = .ok (.goto 17, 3) := by decide +kernel
theorem dX4_put_19 : decode cX4_put 19 = .ok (.aload_n 0, 1) := by decide +kernel
theorem dX4_put_20 : decode cX4_put 20 = .ok (.getfield 13, 3) := by decide +kernel
theorem dX4_put_23 : decode cX4_put 23 = .ok (.iload_n 1, 1) := by decide +kernel
theorem dX4_put_24 : decode cX4_put 24 = .ok (.iaload, 1) := by decide +kernel
theorem dX4_put_25 : decode cX4_put 25 = .ok (.iconst 1, 1) := by decide +kernel
theorem dX4_put_26 : decode cX4_put 26 = .ok (.if_icmp .ne 7, 3) := by decide +kernel
theorem dX4_put_29 : decode cX4_put 29 = .ok (.iload_n 3, 1) := by decide +kernel
theorem dX4_put_30 : decode cX4_put 30 = .ok (.i2s, 1) := by decide +kernel
theorem dX4_put_31 : decode cX4_put 31 = .ok (.istore 4, 2) := by decide +kernel
theorem dX4_put_33 : decode cX4_put 33 = .ok (.aload_n 0, 1) := by decide +kernel
theorem dX4_put_34 : decode cX4_put 34 = .ok (.getfield 9, 3) := by decide +kernel
theorem dX4_put_37 : decode cX4_put 37 = .ok (.iload_n 1, 1) := by decide +kernel
theorem dX4_put_38 : decode cX4_put 38 = .ok (.bipush 40, 2) := by decide +kernel
theorem dX4_put_40 : decode cX4_put 40 = .ok (.imul, 1) := by decide +kernel
theorem dX4_put_41 : decode cX4_put 41 = .ok (.iload_n 2, 1) := by decide +kernel
theorem dX4_put_42 : decode cX4_put 42 = .ok (.iadd, 1) := by decide +kernel
theorem dX4_put_43 : decode cX4_put 43 = .ok (.iload 4, 2) := by decide +kernel
theorem dX4_put_45 : decode cX4_put 45 = .ok (.iastore, 1) := by decide +kernel
theorem dX4_put_46 : decode cX4_put 46 = .ok (.iload 4, 2) := by decide +kernel
theorem dX4_put_48 : decode cX4_put 48 = .ok (.ireturn, 1) := by decide +kernel
theorem dX4_move_0 : decode cX4_move 0 = .ok (.aload_n 0, 1) := by decide +kernel
theorem dX4_move_1 : decode cX4_move 1 = .ok (.getfield 9, 3) := by decide +kernel
theorem dX4_move_4 : decode cX4_move 4 = .ok (.iload_n 1, 1) := by decide +kernel
theorem dX4_move_5 : decode cX4_move 5 = .ok (.bipush 40, 2) := by decide +kernel
theorem dX4_move_7 : decode cX4_move 7 = .ok (.imul, 1) := by decide +kernel
theorem dX4_move_8 : decode cX4_move 8 = .ok (.iload_n 2, 1) := by decide +kernel
theorem dX4_move_9 : decode cX4_move 9 = .ok (.iadd, 1) := by decide +kernel
theorem dX4_move_10 : decode cX4_move 10 = .ok (.aload_n 0, 1) := by decide +kernel
theorem dX4_move_11 : decode cX4_move 11 = .ok (.getfield 9, 3) := by decide +kernel
theorem dX4_move_14 : decode cX4_move 14 = .ok (.iload_n 3, 1) := by decide +kernel
theorem dX4_move_15 : decode cX4_move 15 = .ok (.bipush 40, 2) := by decide +kernel
theorem dX4_move_17 : decode cX4_move 17 = .ok (.imul, 1) := by decide +kernel
theorem dX4_move_18 : decode cX4_move 18 = .ok (.iload 4, 2) := by decide +kernel
theorem dX4_move_20 : decode cX4_move 20 = .ok (.iadd, 1) := by decide +kernel
theorem dX4_move_21 : decode cX4_move 21 = .ok (.iload 5, 2) := by decide +kernel
theorem dX4_move_23 : decode cX4_move 23 = .ok (.invokestatic 25, 3) := by decide +kernel
theorem dX4_move_26 : decode cX4_move 26 = .ok (.return_, 1) := by decide +kernel
theorem dX4_tell_0 : decode cX4_tell 0 = .ok (.iload_n 3, 1) := by decide +kernel
theorem dX4_tell_1 : decode cX4_tell 1 = .ok (.aload 4, 2) := by decide +kernel
theorem dX4_tell_3 : decode cX4_tell 3 = .ok (.arraylength, 1) := by decide +kernel
theorem dX4_tell_4 : decode cX4_tell 4 = .ok (.if_icmp .gt 20, 3) := by decide +kernel
theorem dX4_tell_7 : decode cX4_tell 7 = .ok (.aload_n 0, 1) := by decide +kernel
theorem dX4_tell_8 : decode cX4_tell 8 = .ok (.getfield 9, 3) := by decide +kernel
theorem dX4_tell_11 : decode cX4_tell 11 = .ok (.iload_n 1, 1) := by decide +kernel
theorem dX4_tell_12 : decode cX4_tell 12 = .ok (.bipush 40, 2) := by decide +kernel
theorem dX4_tell_14 : decode cX4_tell 14 = .ok (.imul, 1) := by decide +kernel
theorem dX4_tell_15 : decode cX4_tell 15 = .ok (.iload_n 2, 1) := by decide +kernel
theorem dX4_tell_16 : decode cX4_tell 16 = .ok (.iadd, 1) := by decide +kernel
theorem dX4_tell_17 : decode cX4_tell 17 = .ok (.aload 4, 2) := by decide +kernel
theorem dX4_tell_19 : decode cX4_tell 19 = .ok (.iconst 0, 1) := by decide +kernel
theorem dX4_tell_20 : decode cX4_tell 20 = .ok (.iload_n 3, 1) := by decide +kernel
theorem dX4_tell_21 : decode cX4_tell 21 = .ok (.invokestatic 25, 3) := by decide +kernel
theorem dX4_tell_24 : decode cX4_tell 24 = .ok (.return_, 1) := by decide +kernel
theorem dX4_lose_0 : decode cX4_lose 0 = .ok (.aload_n 0, 1) := by decide +kernel
theorem dX4_lose_1 : decode cX4_lose 1 = .ok (.getfield 16, 3) := by decide +kernel
theorem dX4_lose_4 : decode cX4_lose 4 = .ok (.iload_n 1, 1) := by decide +kernel
theorem dX4_lose_5 : decode cX4_lose 5 = .ok (.iaload, 1) := by decide +kernel
theorem dX4_lose_6 : decode cX4_lose 6 = .ok (.istore_n 2, 1) := by decide +kernel
theorem dX4_lose_7 : decode cX4_lose 7 = .ok (.aload_n 0, 1) := by decide +kernel
theorem dX4_lose_8 : decode cX4_lose 8 = .ok (.getfield 13, 3) := by decide +kernel
theorem dX4_lose_11 : decode cX4_lose 11 = .ok (.iload_n 1, 1) := by decide +kernel
theorem dX4_lose_12 : decode cX4_lose 12 = .ok (.iconst (-1), 1) := by decide +kernel
theorem dX4_lose_13 : decode cX4_lose 13 = .ok (.iastore, 1) := by decide +kernel
theorem dX4_lose_14 : decode cX4_lose 14 = .ok (.aload_n 0, 1) := by decide +kernel
theorem dX4_lose_15 : decode cX4_lose 15 = .ok (.getfield 16, 3) := by decide +kernel
theorem dX4_lose_18 : decode cX4_lose 18 = .ok (.iload_n 1, 1) := by decide +kernel
theorem dX4_lose_19 : decode cX4_lose 19 = .ok (.iconst 0, 1) := by decide +kernel
theorem dX4_lose_20 : decode cX4_lose 20 = .ok (.iastore, 1) := by decide +kernel
theorem dX4_lose_21 : decode cX4_lose 21 = .ok (.iload_n 2, 1) := by decide +kernel
theorem dX4_lose_22 : decode cX4_lose 22 = .ok (.ireturn, 1) := by decide +kernel
theorem dX4_present_0 : decode cX4_present 0 = .ok (.iconst 0, 1) := by decide +kernel
theorem dX4_present_1 : decode cX4_present 1 = .ok (.istore_n 1, 1) := by decide +kernel
theorem dX4_present_2 : decode cX4_present 2 = .ok (.iconst 0, 1) := by decide +kernel
theorem dX4_present_3 : decode cX4_present 3 = .ok (.istore_n 2, 1) := by decide +kernel
theorem dX4_present_4 : decode cX4_present 4 = .ok (.iload_n 2, 1) := by decide +kernel
theorem dX4_present_5 : decode cX4_present 5 = .ok (.bipush 8, 2) := by decide +kernel
theorem dX4_present_7 : decode cX4_present 7 = .ok (.if_icmp .ge 20, 3) := by decide +kernel
theorem dX4_present_10 : decode cX4_present 10 = .ok (.aload_n 0, 1) := by decide +kernel
theorem dX4_present_11 : decode cX4_present 11 = .ok (.iload_n 2, 1) := by decide +kernel
theorem dX4_present_12 : decode cX4_present 12 = .ok (.invokevirtual 31, 3) := by decide +kernel
theorem dX4_present_15 : decode cX4_present 15 = .ok (.ifCond .ne 6, 3) := by decide +kernel
theorem dX4_present_18 : decode cX4_present 18 = .ok (.iinc 1 1, 3) := by decide +kernel
theorem dX4_present_21 : decode cX4_present 21 = .ok (.iinc 2 1, 3) := by decide +kernel
theorem dX4_present_24 : decode cX4_present 24 = .ok (.goto (-20), 3) := by decide +kernel
theorem dX4_present_27 : decode cX4_present 27 = .ok (.iload_n 1, 1) := by decide +kernel
theorem dX4_present_28 : decode cX4_present 28 = .ok (.ireturn, 1) := by decide +kernel
theorem dX5_init_0 : decode cX5_init 0 = .ok (.aload_n 0, 1) := by decide +kernel
theorem dX5_init_1 : decode cX5_init 1 = .ok (.invokespecial 3, 3) := by decide +kernel
theorem dX5_init_4 : decode cX5_init 4 = .ok (.aload_n 0, 1) := by decide +kernel
theorem dX5_init_5 : decode cX5_init 5 = .ok (.new 9, 3) := by decide +kernel
theorem dX5_init_8 : decode cX5_init 8 = .ok (.dup, 1) := by decide +kernel
theorem dX5_init_9 : decode cX5_init 9 = .ok (.invokespecial 11, 3) := by decide +kernel
theorem dX5_init_12 : decode cX5_init 12 = .ok (.putfield 12, 3) := by decide +kernel
theorem dX5_init_15 : decode cX5_init 15 = .ok (.aload_n 0, 1) := by decide +kernel
theorem dX5_init_16 : decode cX5_init 16 = .ok (.bipush 16, 2) := by decide +kernel
theorem dX5_init_18 : decode cX5_init 18 = .ok (.newarray .int, 2) := by decide +kernel
theorem dX5_init_20 : decode cX5_init 20 = .ok (.putfield 18, 3) := by decide +kernel
theorem dX5_init_23 : decode cX5_init 23 = .ok (.aload_n 0, 1) := by decide +kernel
theorem dX5_init_24 : decode cX5_init 24 = .ok (.bipush 20, 2) := by decide +kernel
theorem dX5_init_26 : decode cX5_init 26 = .ok (.newarray .int, 2) := by decide +kernel
theorem dX5_init_28 : decode cX5_init 28 = .ok (.putfield 22, 3) := by decide +kernel
theorem dX5_init_31 : decode cX5_init 31 = .ok (.aload_n 0, 1) := by decide +kernel
theorem dX5_init_32 : decode cX5_init 32 = .ok (.iconst 4, 1) := by decide +kernel
theorem dX5_init_33 : decode cX5_init 33 = .ok (.newarray .int, 2) := by decide +kernel
theorem dX5_init_35 : decode cX5_init 35 = .ok (.putfield 25, 3) := by decide +kernel
theorem dX5_init_38 : decode cX5_init 38 = .ok (.aload_n 0, 1) := by decide +kernel
theorem dX5_init_39 : decode cX5_init 39 = .ok (.iconst 5, 1) := by decide +kernel
theorem dX5_init_40 : decode cX5_init 40 = .ok (.newarray .int, 2) := by decide +kernel
theorem dX5_init_42 : decode cX5_init 42 = .ok (.putfield 28, 3) := by decide +kernel
theorem dX5_init_45 : decode cX5_init 45 = .ok (.aload_n 0, 1) := by decide +kernel
theorem dX5_init_46 : decode cX5_init 46 = .ok (.iconst 5, 1) := by decide +kernel
theorem dX5_init_47 : decode cX5_init 47 = .ok (.newarray .int, 2) := by decide +kernel
theorem dX5_init_49 : decode cX5_init 49 = .ok (.putfield 31, 3) := by decide +kernel
theorem dX5_init_52 : decode cX5_init 52 = .ok (.aload_n 0, 1) := by decide +kernel
theorem dX5_init_53 : decode cX5_init 53 = .ok (.iconst 5, 1) := by decide +kernel
theorem dX5_init_54 : decode cX5_init 54 = .ok (.newarray .int, 2) := by decide +kernel
theorem dX5_init_56 : decode cX5_init 56 = .ok (.putfield 34, 3) := by decide +kernel
theorem dX5_init_59 : decode cX5_init 59 = .ok (.return_, 1) := by decide +kernel
theorem dX5_pass_0 : decode cX5_pass 0 = .ok (.iconst 0, 1) := by decide +kernel
theorem dX5_pass_1 : decode cX5_pass 1 = .ok (.istore_n 2, 1) := by decide +kernel
theorem dX5_pass_2 : decode cX5_pass 2 = .ok (.iload_n 2, 1) := by decide +kernel
theorem dX5_pass_3 : decode cX5_pass 3 = .ok (.aload_n 1, 1) := by decide +kernel
theorem dX5_pass_4 : decode cX5_pass 4 = .ok (.getfield 37, 3) := by decide +kernel
theorem dX5_pass_7 : decode cX5_pass 7 = .ok (.if_icmp .ge 22, 3) := by decide +kernel
theorem dX5_pass_10 : decode cX5_pass 10 = .ok (.aload_n 1, 1) := by decide +kernel
theorem dX5_pass_11 : decode cX5_pass 11 = .ok (.getfield 43, 3) := by decide +kernel
theorem dX5_pass_14 : decode cX5_pass 14 = .ok (.iload_n 2, 1) := by decide +kernel
theorem dX5_pass_15 : decode cX5_pass 15 = .ok (.aload_n 0, 1) := by decide +kernel
theorem dX5_pass_16 : decode cX5_pass 16 = .ok (.aload_n 1, 1) := by decide +kernel
theorem dX5_pass_17 : decode cX5_pass 17 = .ok (.iload_n 2, 1) := by decide +kernel
theorem dX5_pass_18 : decode cX5_pass 18 = .ok (.iconst 1, 1) := by decide +kernel
theorem dX5_pass_19 : decode cX5_pass 19 = .ok (.invokevirtual 46, 3) := by decide +kernel
theorem dX5_pass_22 : decode cX5_pass 22 = .ok (.iastore, 1) := by decide +kernel
theorem dX5_pass_23 : decode cX5_pass 23 = .ok (.iinc 2 1, 3) := by decide +kernel
theorem dX5_pass_26 : decode cX5_pass 26 = .ok (.goto (-24), 3) := by decide +kernel
theorem dX5_pass_29 : decode cX5_pass 29 = .ok (.aload_n 1, 1) := by decide +kernel
theorem dX5_pass_30 : decode cX5_pass 30 = .ok (.dup, 1) := by decide +kernel
theorem dX5_pass_31 : decode cX5_pass 31 = .ok (.getfield 50, 3) := by decide +kernel
theorem dX5_pass_34 : decode cX5_pass 34 = .ok (.iconst 1, 1) := by decide +kernel
theorem dX5_pass_35 : decode cX5_pass 35 = .ok (.iadd, 1) := by decide +kernel
theorem dX5_pass_36 : decode cX5_pass 36 = .ok (.putfield 50, 3) := by decide +kernel
theorem dX5_pass_39 : decode cX5_pass 39 = .ok (.return_, 1) := by decide +kernel
theorem dX5_fadesNow_0 : decode cX5_fadesNow 0 = .ok (.aload_n 0, 1) := by decide +kernel
theorem dX5_fadesNow_1 : decode cX5_fadesNow 1 = .ok (.getfield 12, 3) := by decide +kernel
theorem dX5_fadesNow_4 : decode cX5_fadesNow 4 = .ok (.aload_n 1, 1) := by decide +kernel
theorem dX5_fadesNow_5 : decode cX5_fadesNow 5 = .ok (.iload_n 2, 1) := by decide +kernel
theorem dX5_fadesNow_6 : decode cX5_fadesNow 6 = .ok (.invokevirtual 53, 3) := by decide +kernel
theorem dX5_fadesNow_9 : decode cX5_fadesNow 9 = .ok (.aload_n 0, 1) := by decide +kernel
theorem dX5_fadesNow_10 : decode cX5_fadesNow 10 = .ok (.getfield 12, 3) := by decide +kernel
theorem dX5_fadesNow_13 : decode cX5_fadesNow 13 = .ok (.iconst 1, 1) := by decide +kernel
theorem dX5_fadesNow_14 : decode cX5_fadesNow 14 = .ok (.invokevirtual 57, 3) := by decide +kernel
theorem dX5_fadesNow_17 : decode cX5_fadesNow 17 = .ok (.ireturn, 1) := by decide +kernel
theorem dX5_cellsBehind_0 : decode cX5_cellsBehind 0 = .ok (.aload_n 0, 1) := by decide +kernel
theorem dX5_cellsBehind_1 : decode cX5_cellsBehind 1 = .ok (.getfield 12, 3) := by decide +kernel
theorem dX5_cellsBehind_4 : decode cX5_cellsBehind 4 = .ok (.aload_n 1, 1) := by decide +kernel
theorem dX5_cellsBehind_5 : decode cX5_cellsBehind 5 = .ok (.iload_n 2, 1) := by decide +kernel
theorem dX5_cellsBehind_6 : decode cX5_cellsBehind 6 = .ok (.invokevirtual 53, 3) := by decide +kernel
theorem dX5_cellsBehind_9 : decode cX5_cellsBehind 9 = .ok (.aload_n 0, 1) := by decide +kernel
theorem dX5_cellsBehind_10 : decode cX5_cellsBehind 10 = .ok (.getfield 12, 3) := by decide +kernel
theorem dX5_cellsBehind_13 : decode cX5_cellsBehind 13 = .ok (.iload_n 3, 1) := by decide +kernel
theorem dX5_cellsBehind_14 : decode cX5_cellsBehind 14 = .ok (.invokevirtual 61, 3) := by decide +kernel
theorem dX5_cellsBehind_17 : decode cX5_cellsBehind 17 = .ok (.ireturn, 1) := by decide +kernel
theorem dX5_livingBehind_0 : decode cX5_livingBehind 0 = .ok (.iconst 0, 1) := by decide +kernel
theorem dX5_livingBehind_1 : decode cX5_livingBehind 1 = .ok (.istore_n 3, 1) := by decide +kernel
theorem dX5_livingBehind_2 : decode cX5_livingBehind 2 = .ok (.iconst 0, 1) := by decide +kernel
theorem dX5_livingBehind_3 : decode cX5_livingBehind 3 = .ok (.istore 4, 2) := by decide +kernel
theorem dX5_livingBehind_5 : decode cX5_livingBehind 5 = .ok (.iload 4, 2) := by decide +kernel
theorem dX5_livingBehind_7 : decode cX5_livingBehind 7 = .ok (.aload_n 1, 1) := by decide +kernel
theorem dX5_livingBehind_8 : decode cX5_livingBehind 8 = .ok (.getfield 37, 3) := by decide +kernel
theorem dX5_livingBehind_11 : decode cX5_livingBehind 11 = .ok (.if_icmp .ge 27, 3) := by decide +kernel
theorem dX5_livingBehind_14 : decode cX5_livingBehind 14 = .ok (.aload_n 0, 1) := by decide +kernel
theorem dX5_livingBehind_15 : decode cX5_livingBehind 15 = .ok (.aload_n 1, 1) := by decide +kernel
theorem dX5_livingBehind_16 : decode cX5_livingBehind 16 = .ok (.iload 4, 2) := by decide +kernel
theorem dX5_livingBehind_18 : decode cX5_livingBehind 18 = .ok (.iload_n 2, 1) := by decide +kernel
theorem dX5_livingBehind_19 : decode cX5_livingBehind 19 = .ok (.invokevirtual 46, 3) := by decide +kernel
theorem dX5_livingBehind_22 : decode cX5_livingBehind 22 = .ok (.ifCond .le 10, 3) := by decide +kernel
theorem dX5_livingBehind_25 : decode cX5_livingBehind 25 = .ok (.iload_n 3, 1) := by decide +kernel
theorem dX5_livingBehind_26 : decode cX5_livingBehind 26 = .ok (.iconst 1, 1) := by decide +kernel
theorem dX5_livingBehind_27 : decode cX5_livingBehind 27 = .ok (.iload 4, 2) := by decide +kernel
theorem dX5_livingBehind_29 : decode cX5_livingBehind 29 = .ok (.ishl, 1) := by decide +kernel
theorem dX5_livingBehind_30 : decode cX5_livingBehind 30 = .ok (.ior, 1) := by decide +kernel
theorem dX5_livingBehind_31 : decode cX5_livingBehind 31 = .ok (.istore_n 3, 1) := by decide +kernel
theorem dX5_livingBehind_32 : decode cX5_livingBehind 32 = .ok (.iinc 4 1, 3) := by decide +kernel
theorem dX5_livingBehind_35 : decode cX5_livingBehind 35 = .ok (.goto (-30), 3) := by decide +kernel
theorem dX5_livingBehind_38 : decode cX5_livingBehind 38 = .ok (.iload_n 3, 1) := by decide +kernel
theorem dX5_livingBehind_39 : decode cX5_livingBehind 39 = .ok (.ireturn, 1) := by decide +kernel
theorem dX5_death_0 : decode cX5_death 0 = .ok (.aload_n 0, 1) := by decide +kernel
theorem dX5_death_1 : decode cX5_death 1 = .ok (.getfield 12, 3) := by decide +kernel
theorem dX5_death_4 : decode cX5_death 4 = .ok (.aload_n 1, 1) := by decide +kernel
theorem dX5_death_5 : decode cX5_death 5 = .ok (.iload_n 2, 1) := by decide +kernel
theorem dX5_death_6 : decode cX5_death 6 = .ok (.invokevirtual 53, 3) := by decide +kernel
theorem dX5_death_9 : decode cX5_death 9 = .ok (.iconst 0, 1) := by decide +kernel
theorem dX5_death_10 : decode cX5_death 10 = .ok (.istore_n 3, 1) := by decide +kernel
theorem dX5_death_11 : decode cX5_death 11 = .ok (.iload_n 3, 1) := by decide +kernel
theorem dX5_death_12 : decode cX5_death 12 = .ok (.bipush 99, 2) := by decide +kernel
theorem dX5_death_14 : decode cX5_death 14 = .ok (.if_icmp .gt 22, 3) := by decide +kernel
theorem dX5_death_17 : decode cX5_death 17 = .ok (.aload_n 0, 1) := by decide +kernel
theorem dX5_death_18 : decode cX5_death 18 = .ok (.getfield 12, 3) := by decide +kernel
theorem dX5_death_21 : decode cX5_death 21 = .ok (.iload_n 3, 1) := by decide +kernel
theorem dX5_death_22 : decode cX5_death 22 = .ok (.invokevirtual 61, 3) := by decide +kernel
theorem dX5_death_25 : decode cX5_death 25 = .ok (.ifCond .ne 5, 3) := by decide +kernel
theorem dX5_death_28 : decode cX5_death 28 = .ok (.iload_n 3, 1) := by decide +kernel
theorem dX5_death_29 : decode cX5_death 29 = .ok (.ireturn, 1) := by decide +kernel
theorem dX5_death_30 : decode cX5_death 30 = .ok (.iinc 3 1, 3) := by decide +kernel
theorem dX5_death_33 : decode cX5_death 33 = .ok (.goto (-22), 3) := by decide +kernel
theorem dX5_death_36 : decode cX5_death 36 = .ok (.ldc 63, 2) := by decide +kernel
theorem dX5_death_38 : decode cX5_death 38 = .ok (.ireturn, 1) := by decide +kernel
theorem dX5_firstToDie_0 : decode cX5_firstToDie 0 = .ok (.ldc 63, 2) := by decide +kernel
theorem dX5_firstToDie_2 : decode cX5_firstToDie 2 = .ok (.istore_n 2, 1) := by decide +kernel
theorem dX5_firstToDie_3 : decode cX5_firstToDie 3 = .ok (.bipush 100, 2) := by decide +kernel
theorem dX5_firstToDie_5 : decode cX5_firstToDie 5 = .ok (.istore_n 3, 1) := by decide +kernel
theorem dX5_firstToDie_6 : decode cX5_firstToDie 6 = .ok (.iconst 0, 1) := by decide +kernel
theorem dX5_firstToDie_7 : decode cX5_firstToDie 7 = .ok (.istore 4, 2) := by decide +kernel
theorem dX5_firstToDie_9 : decode cX5_firstToDie 9 = .ok (.iload 4, 2) := by decide +kernel
theorem dX5_firstToDie_11 : decode cX5_firstToDie 11 = .ok (.aload_n 1, 1) := by decide +kernel
theorem dX5_firstToDie_12 : decode cX5_firstToDie 12 = .ok (.getfield 37, 3) := by decide +kernel
theorem dX5_firstToDie_15 : decode cX5_firstToDie 15 = .ok (.if_icmp .ge 35, 3) := by decide +kernel
theorem dX5_firstToDie_18 : decode cX5_firstToDie 18 = .ok (.aload_n 0, 1) := by decide +kernel
theorem dX5_firstToDie_19 : decode cX5_firstToDie 19 = .ok (.aload_n 1, 1) := by decide +kernel
theorem dX5_firstToDie_20 : decode cX5_firstToDie 20 = .ok (.iload 4, 2) := by decide +kernel
theorem dX5_firstToDie_22 : decode cX5_firstToDie 22 = .ok (.invokevirtual 64, 3) := by decide +kernel
theorem dX5_firstToDie_25 : decode cX5_firstToDie 25 = .ok (.istore 5, 2) := by decide +kernel
theorem dX5_firstToDie_27 : decode cX5_firstToDie 27 = .ok (.iload 5, 2) := by decide +kernel
theorem dX5_firstToDie_29 : decode cX5_firstToDie 29 = .ok (.ifCond .le 15, 3) := by decide +kernel
theorem dX5_firstToDie_32 : decode cX5_firstToDie 32 = .ok (.iload 5, 2) := by decide +kernel
theorem dX5_firstToDie_34 : decode cX5_firstToDie 34 = .ok (.iload_n 3, 1) := by decide +kernel
theorem dX5_firstToDie_35 : decode cX5_firstToDie 35 = .ok (.if_icmp .ge 9, 3) := by decide +kernel
theorem dX5_firstToDie_38 : decode cX5_firstToDie 38 = .ok (.iload 4, 2) := by decide +kernel
theorem dX5_firstToDie_40 : decode cX5_firstToDie 40 = .ok (.istore_n 2, 1) := by decide +kernel
theorem dX5_firstToDie_41 : decode cX5_firstToDie 41 = .ok (.iload 5, 2) := by decide +kernel
theorem dX5_firstToDie_43 : decode cX5_firstToDie 43 = .ok (.istore_n 3, 1) := by decide +kernel
theorem dX5_firstToDie_44 : decode cX5_firstToDie 44 = .ok (.iinc 4 1, 3) := by decide +kernel
theorem dX5_firstToDie_47 : decode cX5_firstToDie 47 = .ok (.goto (-38), 3) := by decide +kernel
theorem dX5_firstToDie_50 : decode cX5_firstToDie 50 = .ok (.iload_n 2, 1) := by decide +kernel
theorem dX5_firstToDie_51 : decode cX5_firstToDie 51 = .ok (.ireturn, 1) := by decide +kernel
theorem dX5_seekHanging_0 : decode cX5_seekHanging 0 = .ok (.aload_n 0, 1) := by decide +kernel
theorem dX5_seekHanging_1 : decode cX5_seekHanging 1 = .ok (.iconst (-1), 1) := by decide +kernel
theorem dX5_seekHanging_2 : decode cX5_seekHanging 2 = .ok (.putfield 68, 3) := by decide +kernel
theorem dX5_seekHanging_5 : decode cX5_seekHanging 5 = .ok (.aload_n 0, 1) := by decide +kernel
theorem dX5_seekHanging_6 : decode cX5_seekHanging 6 = .ok (.iconst (-1), 1) := by decide +kernel
theorem dX5_seekHanging_7 : decode cX5_seekHanging 7 = .ok (.putfield 71, 3) := by decide +kernel
theorem dX5_seekHanging_10 : decode cX5_seekHanging 10 = .ok (.aload_n 0, 1) := by decide +kernel
theorem dX5_seekHanging_11 : decode cX5_seekHanging 11 = .ok (.aload_n 1, 1) := by decide +kernel
theorem dX5_seekHanging_12 : decode cX5_seekHanging 12 = .ok (.iload_n 2, 1) := by decide +kernel
theorem dX5_seekHanging_13 : decode cX5_seekHanging 13 = .ok (.invokevirtual 74, 3) := by decide +kernel
theorem dX5_seekHanging_16 : decode cX5_seekHanging 16 = .ok (.aload_n 0, 1) := by decide +kernel
theorem dX5_seekHanging_17 : decode cX5_seekHanging 17 = .ok (.aload_n 1, 1) := by decide +kernel
theorem dX5_seekHanging_18 : decode cX5_seekHanging 18 = .ok (.iconst 0, 1) := by decide +kernel
theorem dX5_seekHanging_19 : decode cX5_seekHanging 19 = .ok (.iconst 0, 1) := by decide +kernel
theorem dX5_seekHanging_20 : decode cX5_seekHanging 20 = .ok (.iconst 0, 1) := by decide +kernel
theorem dX5_seekHanging_21 : decode cX5_seekHanging 21 = .ok (.invokevirtual 77, 3) := by decide +kernel
theorem dX5_seekHanging_24 : decode cX5_seekHanging 24 = .ok (.return_, 1) := by decide +kernel
theorem dX5_foretellAllWalls_0 : decode cX5_foretellAllWalls 0 = .ok (.iconst 0, 1) := by decide +kernel
theorem dX5_foretellAllWalls_1 : decode cX5_foretellAllWalls 1 = .ok (.istore_n 3, 1) := by decide +kernel
theorem dX5_foretellAllWalls_2 : decode cX5_foretellAllWalls 2 = .ok (.iload_n 3, 1) := by decide +kernel
theorem dX5_foretellAllWalls_3 : decode cX5_foretellAllWalls 3 = .ok (.aload_n 1, 1) := by decide +kernel
theorem dX5_foretellAllWalls_4 : decode cX5_foretellAllWalls 4 = .ok (.getfield 37, 3) := by decide +kernel
theorem dX5_foretellAllWalls_7 : decode cX5_foretellAllWalls 7 = .ok (.if_icmp .ge 65, 3) := by decide +kernel
theorem dX5_foretellAllWalls_10 : decode cX5_foretellAllWalls 10 = .ok (.aload_n 0, 1) := by decide +kernel
theorem dX5_foretellAllWalls_11 : decode cX5_foretellAllWalls 11 = .ok (.getfield 12, 3) := by decide +kernel
theorem dX5_foretellAllWalls_14 : decode cX5_foretellAllWalls 14 = .ok (.aload_n 1, 1) := by decide +kernel
theorem dX5_foretellAllWalls_15 : decode cX5_foretellAllWalls 15 = .ok (.iload_n 3, 1) := by decide +kernel
theorem dX5_foretellAllWalls_16 : decode cX5_foretellAllWalls 16 = .ok (.invokevirtual 53, 3) := by decide +kernel
theorem dX5_foretellAllWalls_19 : decode cX5_foretellAllWalls 19 = .ok (.iconst 0, 1) := by decide +kernel
theorem dX5_foretellAllWalls_20 : decode cX5_foretellAllWalls 20 = .ok (.istore 4, 2) := by decide +kernel
theorem dX5_foretellAllWalls_22 : decode cX5_foretellAllWalls 22 = .ok (.iload 4, 2) := by decide +kernel
theorem dX5_foretellAllWalls_24 : decode cX5_foretellAllWalls 24 = .ok (.aload_n 1, 1) := by decide +kernel
theorem dX5_foretellAllWalls_25 : decode cX5_foretellAllWalls 25 = .ok (.getfield 81, 3) := by decide +kernel
theorem dX5_foretellAllWalls_28 : decode cX5_foretellAllWalls 28 = .ok (.if_icmp .ge 38, 3) := by decide +kernel
theorem dX5_foretellAllWalls_31 : decode cX5_foretellAllWalls 31 = .ok (.aload_n 0, 1) := by decide +kernel
theorem dX5_foretellAllWalls_32 : decode cX5_foretellAllWalls 32 = .ok (.getfield 12, 3) := by decide +kernel
theorem dX5_foretellAllWalls_35 : decode cX5_foretellAllWalls 35 = .ok (.aload_n 1, 1) := by decide +kernel
theorem dX5_foretellAllWalls_36 : decode cX5_foretellAllWalls 36 = .ok (.iload 4, 2) := by decide +kernel
theorem dX5_foretellAllWalls_38 : decode cX5_foretellAllWalls 38 = .ok (.invokevirtual 84, 3) := by decide +kernel
theorem dX5_foretellAllWalls_41 : decode cX5_foretellAllWalls 41 = .ok (.aload_n 0, 1) := by decide +kernel
theorem dX5_foretellAllWalls_42 : decode cX5_foretellAllWalls 42 = .ok (.getfield 22, 3) := by decide +kernel
theorem dX5_foretellAllWalls_45 : decode cX5_foretellAllWalls 45 = .ok (.iload_n 3, 1) := by decide +kernel
theorem dX5_foretellAllWalls_46 : decode cX5_foretellAllWalls 46 = .ok (.iconst 4, 1) := by decide +kernel
theorem dX5_foretellAllWalls_47 : decode cX5_foretellAllWalls 47 = .ok (.imul, 1) := by decide +kernel
theorem dX5_foretellAllWalls_48 : decode cX5_foretellAllWalls 48 = .ok (.iload 4, 2) := by decide +kernel
theorem dX5_foretellAllWalls_50 : decode cX5_foretellAllWalls 50 = .ok (.iadd, 1) := by decide +kernel
theorem dX5_foretellAllWalls_51 : decode cX5_foretellAllWalls 51 = .ok (.aload_n 0, 1) := by decide +kernel
theorem dX5_foretellAllWalls_52 : decode cX5_foretellAllWalls 52 = .ok (.getfield 12, 3) := by decide +kernel
theorem dX5_foretellAllWalls_55 : decode cX5_foretellAllWalls 55 = .ok (.iload_n 2, 1) := by decide +kernel
theorem dX5_foretellAllWalls_56 : decode cX5_foretellAllWalls 56 = .ok (.invokevirtual 61, 3) := by decide +kernel
theorem dX5_foretellAllWalls_59 : decode cX5_foretellAllWalls 59 = .ok (.iastore, 1) := by decide +kernel
theorem dX5_foretellAllWalls_60 : decode cX5_foretellAllWalls 60 = .ok (.iinc 4 1, 3) := by decide +kernel
theorem dX5_foretellAllWalls_63 : decode cX5_foretellAllWalls 63 = .ok (.goto (-41), 3) := by decide +kernel
theorem dX5_foretellAllWalls_66 : decode cX5_foretellAllWalls 66 = .ok (.iinc 3 1, 3) := by decide +kernel
theorem dX5_foretellAllWalls_69 : decode cX5_foretellAllWalls 69 = .ok (.goto (-67), 3) := by decide +kernel
theorem dX5_foretellAllWalls_72 : decode cX5_foretellAllWalls 72 = .ok (.return_, 1) := by decide +kernel
theorem dX5_hangFrom_0 : decode cX5_hangFrom 0 = .ok (.iload_n 2, 1) := by decide +kernel
theorem dX5_hangFrom_1 : decode cX5_hangFrom 1 = .ok (.aload_n 1, 1) := by decide +kernel
theorem dX5_hangFrom_2 : decode cX5_hangFrom 2 = .ok (.getfield 37, 3) := by decide +kernel
theorem dX5_hangFrom_5 : decode cX5_hangFrom 5 = .ok (.if_icmp .ge 8, 3) := by decide +kernel
theorem dX5_hangFrom_8 : decode cX5_hangFrom 8 = .ok (.iload_n 2, 1) := by decide +kernel
theorem dX5_hangFrom_9 : decode cX5_hangFrom 9 = .ok (.iconst 5, 1) := by decide +kernel
theorem dX5_hangFrom_10 : decode cX5_hangFrom 10 = .ok (.if_icmp .lt 11, 3) := by decide +kernel
theorem dX5_hangFrom_13 : decode cX5_hangFrom 13 = .ok (.aload_n 0, 1) := by decide +kernel
theorem dX5_hangFrom_14 : decode cX5_hangFrom 14 = .ok (.iload_n 3, 1) := by decide +kernel
theorem dX5_hangFrom_15 : decode cX5_hangFrom 15 = .ok (.iload 4, 2) := by decide +kernel
theorem dX5_hangFrom_17 : decode cX5_hangFrom 17 = .ok (.invokevirtual 87, 3) := by decide +kernel
theorem dX5_hangFrom_20 : decode cX5_hangFrom 20 = .ok (.return_, 1) := by decide +kernel
theorem dX5_hangFrom_21 : decode cX5_hangFrom 21 = .ok (.iconst 0, 1) := by decide +kernel
theorem dX5_hangFrom_22 : decode cX5_hangFrom 22 = .ok (.istore 5, 2) := by decide +kernel
theorem dX5_hangFrom_24 : decode cX5_hangFrom 24 = .ok (.iload 5, 2) := by decide +kernel
theorem dX5_hangFrom_26 : decode cX5_hangFrom 26 = .ok (.aload_n 1, 1) := by decide +kernel
theorem dX5_hangFrom_27 : decode cX5_hangFrom 27 = .ok (.getfield 81, 3) := by decide +kernel
theorem dX5_hangFrom_30 : decode cX5_hangFrom 30 = .ok (.if_icmp .ge 91, 3) := by decide +kernel
theorem dX5_hangFrom_33 : decode cX5_hangFrom 33 = .ok (.aload_n 0, 1) := by decide +kernel
theorem dX5_hangFrom_34 : decode cX5_hangFrom 34 = .ok (.getfield 25, 3) := by decide +kernel
theorem dX5_hangFrom_37 : decode cX5_hangFrom 37 = .ok (.iload 5, 2) := by decide +kernel
theorem dX5_hangFrom_39 : decode cX5_hangFrom 39 = .ok (.iaload, 1) := by decide +kernel
theorem dX5_hangFrom_40 : decode cX5_hangFrom 40 = .ok (.aload_n 1, 1) := by decide +kernel
theorem dX5_hangFrom_41 : decode cX5_hangFrom 41 = .ok (.getfield 91, 3) := by decide +kernel
theorem dX5_hangFrom_44 : decode cX5_hangFrom 44 = .ok (.if_icmp .ge 71, 3) := by decide +kernel
theorem dX5_hangFrom_47 : decode cX5_hangFrom 47 = .ok (.aload_n 0, 1) := by decide +kernel
theorem dX5_hangFrom_48 : decode cX5_hangFrom 48 = .ok (.getfield 22, 3) := by decide +kernel
theorem dX5_hangFrom_51 : decode cX5_hangFrom 51 = .ok (.iload_n 2, 1) := by decide +kernel
theorem dX5_hangFrom_52 : decode cX5_hangFrom 52 = .ok (.iconst 4, 1) := by decide +kernel
theorem dX5_hangFrom_53 : decode cX5_hangFrom 53 = .ok (.imul, 1) := by decide +kernel
theorem dX5_hangFrom_54 : decode cX5_hangFrom 54 = .ok (.iload 5, 2) := by decide +kernel
theorem dX5_hangFrom_56 : decode cX5_hangFrom 56 = .ok (.iadd, 1) := by decide +kernel
theorem dX5_hangFrom_57 : decode cX5_hangFrom 57 = .ok (.iaload, 1) := by decide +kernel
theorem dX5_hangFrom_58 : decode cX5_hangFrom 58 = .ok (.istore 6, 2) := by decide +kernel
theorem dX5_hangFrom_60 : decode cX5_hangFrom 60 = .ok (.aload_n 0, 1) := by decide +kernel
theorem dX5_hangFrom_61 : decode cX5_hangFrom 61 = .ok (.getfield 28, 3) := by decide +kernel
theorem dX5_hangFrom_64 : decode cX5_hangFrom 64 = .ok (.iload_n 2, 1) := by decide +kernel
theorem dX5_hangFrom_65 : decode cX5_hangFrom 65 = .ok (.iload 5, 2) := by decide +kernel
theorem dX5_hangFrom_67 : decode cX5_hangFrom 67 = .ok (.iastore, 1) := by decide +kernel
theorem dX5_hangFrom_68 : decode cX5_hangFrom 68 = .ok (.aload_n 0, 1) := by decide +kernel
theorem dX5_hangFrom_69 : decode cX5_hangFrom 69 = .ok (.getfield 25, 3) := by decide +kernel
theorem dX5_hangFrom_72 : decode cX5_hangFrom 72 = .ok (.iload 5, 2) := by decide +kernel
theorem dX5_hangFrom_74 : decode cX5_hangFrom 74 = .ok (.dup2, 1) := by decide +kernel
theorem dX5_hangFrom_75 : decode cX5_hangFrom 75 = .ok (.iaload, 1) := by decide +kernel
theorem dX5_hangFrom_76 : decode cX5_hangFrom 76 = .ok (.iconst 1, 1) := by decide +kernel
theorem dX5_hangFrom_77 : decode cX5_hangFrom 77 = .ok (.iadd, 1) := by decide +kernel
theorem dX5_hangFrom_78 : decode cX5_hangFrom 78 = .ok (.iastore, 1) := by decide +kernel
theorem dX5_hangFrom_79 : decode cX5_hangFrom 79 = .ok (.aload_n 0, 1) := by decide +kernel
theorem dX5_hangFrom_80 : decode cX5_hangFrom 80 = .ok (.aload_n 1, 1) := by decide +kernel
theorem dX5_hangFrom_81 : decode cX5_hangFrom 81 = .ok (.iload_n 2, 1) := by decide +kernel
theorem dX5_hangFrom_82 : decode cX5_hangFrom 82 = .ok (.iconst 1, 1) := by decide +kernel
theorem dX5_hangFrom_83 : decode cX5_hangFrom 83 = .ok (.iadd, 1) := by decide +kernel
theorem dX5_hangFrom_84 : decode cX5_hangFrom 84 = .ok (.iload_n 3, 1) := by decide +kernel
theorem dX5_hangFrom_85 : decode cX5_hangFrom 85 = .ok (.iload 6, 2) := by decide +kernel
theorem dX5_hangFrom_87 : decode cX5_hangFrom 87 = .ok (.ifCond .le 7, 3) := by decide +kernel
theorem dX5_hangFrom_90 : decode cX5_hangFrom 90 = .ok (.iconst 1, 1) := by decide +kernel
theorem dX5_hangFrom_91 : decode cX5_hangFrom 91 = .ok (.goto 4, 3) := by decide +kernel
theorem dX5_hangFrom_94 : decode cX5_hangFrom 94 = .ok (.iconst 0, 1) := by decide +kernel
theorem dX5_hangFrom_95 : decode cX5_hangFrom 95 = .ok (.iadd, 1) := by decide +kernel
theorem dX5_hangFrom_96 : decode cX5_hangFrom 96 = .ok (.iload 4, 2) := by decide +kernel
theorem dX5_hangFrom_98 : decode cX5_hangFrom 98 = .ok (.iload 6, 2) := by decide +kernel
theorem dX5_hangFrom_100 : decode cX5_hangFrom 100 = .ok (.iadd, 1) := by decide +kernel
theorem dX5_hangFrom_101 : decode cX5_hangFrom 101 = .ok (.invokevirtual 77, 3) := by decide +kernel
theorem dX5_hangFrom_104 : decode cX5_hangFrom 104 = .ok (.aload_n 0, 1) := by decide +kernel
theorem dX5_hangFrom_105 : decode cX5_hangFrom 105 = .ok (.getfield 25, 3) := by decide +kernel
theorem dX5_hangFrom_108 : decode cX5_hangFrom 108 = .ok (.iload 5, 2) := by decide +kernel
theorem dX5_hangFrom_110 : decode cX5_hangFrom 110 = .ok (.dup2, 1) := by decide +kernel
theorem dX5_hangFrom_111 : decode cX5_hangFrom 111 = .ok (.iaload, 1) := by decide +kernel
theorem dX5_hangFrom_112 : decode cX5_hangFrom 112 = .ok (.iconst 1, 1) := by decide +kernel
theorem dX5_hangFrom_113 : decode cX5_hangFrom 113 = .ok (.isub, 1) := by decide +kernel
theorem dX5_hangFrom_114 : decode cX5_hangFrom 114 = .ok (.iastore, 1) := by decide +kernel
theorem dX5_hangFrom_115 : decode cX5_hangFrom 115 = .ok (.iinc 5 1, 3) := by decide +kernel
theorem dX5_hangFrom_118 : decode cX5_hangFrom 118 = .ok (.goto (-94), 3) := by decide +kernel
theorem dX5_hangFrom_121 : decode cX5_hangFrom 121 = .ok (.return_, 1) := by decide +kernel
theorem dX5_weigh_0 : decode cX5_weigh 0 = .ok (.iload_n 1, 1) := by decide +kernel
theorem dX5_weigh_1 : decode cX5_weigh 1 = .ok (.aload_n 0, 1) := by decide +kernel
theorem dX5_weigh_2 : decode cX5_weigh 2 = .ok (.getfield 68, 3) := by decide +kernel
theorem dX5_weigh_5 : decode cX5_weigh 5 = .ok (.if_icmp .gt 19, 3) := by decide +kernel
theorem dX5_weigh_8 : decode cX5_weigh 8 = .ok (.iload_n 1, 1) := by decide +kernel
theorem dX5_weigh_9 : decode cX5_weigh 9 = .ok (.aload_n 0, 1) := by decide +kernel
theorem dX5_weigh_10 : decode cX5_weigh 10 = .ok (.getfield 68, 3) := by decide +kernel
theorem dX5_weigh_13 : decode cX5_weigh 13 = .ok (.if_icmp .ne 35, 3) := by decide +kernel
theorem dX5_weigh_16 : decode cX5_weigh 16 = .ok (.iload_n 2, 1) := by decide +kernel
theorem dX5_weigh_17 : decode cX5_weigh 17 = .ok (.aload_n 0, 1) := by decide +kernel
theorem dX5_weigh_18 : decode cX5_weigh 18 = .ok (.getfield 71, 3) := by decide +kernel
theorem dX5_weigh_21 : decode cX5_weigh 21 = .ok (.if_icmp .le 27, 3) := by decide +kernel
theorem dX5_weigh_24 : decode cX5_weigh 24 = .ok (.aload_n 0, 1) := by decide +kernel
theorem dX5_weigh_25 : decode cX5_weigh 25 = .ok (.iload_n 1, 1) := by decide +kernel
theorem dX5_weigh_26 : decode cX5_weigh 26 = .ok (.putfield 68, 3) := by decide +kernel
theorem dX5_weigh_29 : decode cX5_weigh 29 = .ok (.aload_n 0, 1) := by decide +kernel
theorem dX5_weigh_30 : decode cX5_weigh 30 = .ok (.iload_n 2, 1) := by decide +kernel
theorem dX5_weigh_31 : decode cX5_weigh 31 = .ok (.putfield 71, 3) := by decide +kernel
theorem dX5_weigh_34 : decode cX5_weigh 34 = .ok (.aload_n 0, 1) := by decide +kernel
theorem dX5_weigh_35 : decode cX5_weigh 35 = .ok (.getfield 28, 3) := by decide +kernel
theorem dX5_weigh_38 : decode cX5_weigh 38 = .ok (.iconst 0, 1) := by decide +kernel
theorem dX5_weigh_39 : decode cX5_weigh 39 = .ok (.aload_n 0, 1) := by decide +kernel
theorem dX5_weigh_40 : decode cX5_weigh 40 = .ok (.getfield 31, 3) := by decide +kernel
theorem dX5_weigh_43 : decode cX5_weigh 43 = .ok (.iconst 0, 1) := by decide +kernel
theorem dX5_weigh_44 : decode cX5_weigh 44 = .ok (.iconst 5, 1) := by decide +kernel
theorem dX5_weigh_45 : decode cX5_weigh 45 = .ok (.invokestatic 94, 3) := by decide +kernel
theorem dX5_weigh_48 : decode cX5_weigh 48 = .ok (.return_, 1) := by decide +kernel
theorem dX5_cellsToSave_0 : decode cX5_cellsToSave 0 = .ok (.iconst 0, 1) := by decide +kernel
theorem dX5_cellsToSave_1 : decode cX5_cellsToSave 1 = .ok (.istore 4, 2) := by decide +kernel
theorem dX5_cellsToSave_3 : decode cX5_cellsToSave 3 = .ok (.iconst 0, 1) := by decide +kernel
theorem dX5_cellsToSave_4 : decode cX5_cellsToSave 4 = .ok (.istore 5, 2) := by decide +kernel
theorem dX5_cellsToSave_6 : decode cX5_cellsToSave 6 = .ok (.iload 5, 2) := by decide +kernel
theorem dX5_cellsToSave_8 : decode cX5_cellsToSave 8 = .ok (.aload_n 1, 1) := by decide +kernel
theorem dX5_cellsToSave_9 : decode cX5_cellsToSave 9 = .ok (.getfield 37, 3) := by decide +kernel
theorem dX5_cellsToSave_12 : decode cX5_cellsToSave 12 = .ok (.if_icmp .ge 80, 3) := by decide +kernel
theorem dX5_cellsToSave_15 : decode cX5_cellsToSave 15 = .ok (.iload_n 2, 1) := by decide +kernel
theorem dX5_cellsToSave_16 : decode cX5_cellsToSave 16 = .ok (.iload 5, 2) := by decide +kernel
theorem dX5_cellsToSave_18 : decode cX5_cellsToSave 18 = .ok (.ishr, 1) := by decide +kernel
theorem dX5_cellsToSave_19 : decode cX5_cellsToSave 19 = .ok (.iconst 1, 1) := by decide +kernel
theorem dX5_cellsToSave_20 : decode cX5_cellsToSave 20 = .ok (.iand, 1) := by decide +kernel
theorem dX5_cellsToSave_21 : decode cX5_cellsToSave 21 = .ok (.iconst 1, 1) := by decide +kernel
theorem dX5_cellsToSave_22 : decode cX5_cellsToSave 22 = .ok (.if_icmp .ne 64, 3) := by decide +kernel
theorem dX5_cellsToSave_25 : decode cX5_cellsToSave 25 = .ok (.aload_n 0, 1) := by decide +kernel
theorem dX5_cellsToSave_26 : decode cX5_cellsToSave 26 = .ok (.getfield 12, 3) := by decide +kernel
theorem dX5_cellsToSave_29 : decode cX5_cellsToSave 29 = .ok (.aload_n 1, 1) := by decide +kernel
theorem dX5_cellsToSave_30 : decode cX5_cellsToSave 30 = .ok (.iload 5, 2) := by decide +kernel
theorem dX5_cellsToSave_32 : decode cX5_cellsToSave 32 = .ok (.invokevirtual 53, 3) := by decide +kernel
theorem dX5_cellsToSave_35 : decode cX5_cellsToSave 35 = .ok (.aload_n 0, 1) := by decide +kernel
theorem dX5_cellsToSave_36 : decode cX5_cellsToSave 36 = .ok (.getfield 12, 3) := by decide +kernel
theorem dX5_cellsToSave_39 : decode cX5_cellsToSave 39 = .ok (.iload_n 3, 1) := by decide +kernel
theorem dX5_cellsToSave_40 : decode cX5_cellsToSave 40 = .ok (.invokevirtual 57, 3) := by decide +kernel
theorem dX5_cellsToSave_43 : decode cX5_cellsToSave 43 = .ok (.iconst 1, 1) := by decide +kernel
theorem dX5_cellsToSave_44 : decode cX5_cellsToSave 44 = .ok (.iadd, 1) := by decide +kernel
theorem dX5_cellsToSave_45 : decode cX5_cellsToSave 45 = .ok (.istore 6, 2) := by decide +kernel
theorem dX5_cellsToSave_47 : decode cX5_cellsToSave 47 = .ok (.aload_n 0, 1) := by decide +kernel
theorem dX5_cellsToSave_48 : decode cX5_cellsToSave 48 = .ok (.getfield 12, 3) := by decide +kernel
theorem dX5_cellsToSave_51 : decode cX5_cellsToSave 51 = .ok (.getfield 100, 3) := by decide +kernel
theorem dX5_cellsToSave_54 : decode cX5_cellsToSave 54 = .ok (.ifCond .eq 10, 3) := by decide +kernel
theorem dX5_cellsToSave_57 : decode cX5_cellsToSave 57 = .ok (.iload 6, 2) := by decide +kernel
theorem dX5_cellsToSave_59 : decode cX5_cellsToSave 59 = .ok (.bipush 60, 2) := by decide +kernel
theorem dX5_cellsToSave_61 : decode cX5_cellsToSave 61 = .ok (.if_icmp .le 6, 3) := by decide +kernel
theorem dX5_cellsToSave_64 : decode cX5_cellsToSave 64 = .ok (.ldc 63, 2) := by decide +kernel
theorem dX5_cellsToSave_66 : decode cX5_cellsToSave 66 = .ok (.ireturn, 1) := by decide +kernel
theorem dX5_cellsToSave_67 : decode cX5_cellsToSave 67 = .ok (.iload 4, 2) := by decide +kernel
theorem dX5_cellsToSave_69 : decode cX5_cellsToSave 69 = .ok (.iconst 0, 1) := by decide +kernel
theorem dX5_cellsToSave_70 : decode cX5_cellsToSave 70 = .ok (.iload 6, 2) := by decide +kernel
theorem dX5_cellsToSave_72 : decode cX5_cellsToSave 72 = .ok (.aload_n 0, 1) := by decide +kernel
theorem dX5_cellsToSave_73 : decode cX5_cellsToSave 73 = .ok (.getfield 12, 3) := by decide +kernel
theorem dX5_cellsToSave_76 : decode cX5_cellsToSave 76 = .ok (.getfield 100, 3) := by decide +kernel
theorem dX5_cellsToSave_79 : decode cX5_cellsToSave 79 = .ok (.isub, 1) := by decide +kernel
theorem dX5_cellsToSave_80 : decode cX5_cellsToSave 80 = .ok (.invokestatic 102, 3) := by decide +kernel
theorem dX5_cellsToSave_83 : decode cX5_cellsToSave 83 = .ok (.iadd, 1) := by decide +kernel
theorem dX5_cellsToSave_84 : decode cX5_cellsToSave 84 = .ok (.istore 4, 2) := by decide +kernel
theorem dX5_cellsToSave_86 : decode cX5_cellsToSave 86 = .ok (.iinc 5 1, 3) := by decide +kernel
theorem dX5_cellsToSave_89 : decode cX5_cellsToSave 89 = .ok (.goto (-83), 3) := by decide +kernel
theorem dX5_cellsToSave_92 : decode cX5_cellsToSave 92 = .ok (.iload 4, 2) := by decide +kernel
theorem dX5_cellsToSave_94 : decode cX5_cellsToSave 94 = .ok (.aload_n 1, 1) := by decide +kernel
theorem dX5_cellsToSave_95 : decode cX5_cellsToSave 95 = .ok (.getfield 108, 3) := by decide +kernel
theorem dX5_cellsToSave_98 : decode cX5_cellsToSave 98 = .ok (.if_icmp .le 8, 3) := by decide +kernel
theorem dX5_cellsToSave_101 : decode cX5_cellsToSave 101 = .ok (.ldc 63, 2) := by decide +kernel
theorem dX5_cellsToSave_103 : decode cX5_cellsToSave 103 = .ok (.goto 5, 3) := by decide +kernel
theorem dX5_cellsToSave_106 : decode cX5_cellsToSave 106 = .ok (.iload 4, 2) := by decide +kernel
theorem dX5_cellsToSave_108 : decode cX5_cellsToSave 108 = .ok (.ireturn, 1) := by decide +kernel
theorem dX5_wallToDarken_0 : decode cX5_wallToDarken 0 = .ok (.iconst 0, 1) := by decide +kernel
theorem dX5_wallToDarken_1 : decode cX5_wallToDarken 1 = .ok (.istore_n 3, 1) := by decide +kernel
theorem dX5_wallToDarken_2 : decode cX5_wallToDarken 2 = .ok (.iconst (-1), 1) := by decide +kernel
theorem dX5_wallToDarken_3 : decode cX5_wallToDarken 3 = .ok (.istore 4, 2) := by decide +kernel
theorem dX5_wallToDarken_5 : decode cX5_wallToDarken 5 = .ok (.iconst 0, 1) := by decide +kernel
theorem dX5_wallToDarken_6 : decode cX5_wallToDarken 6 = .ok (.istore 5, 2) := by decide +kernel
theorem dX5_wallToDarken_8 : decode cX5_wallToDarken 8 = .ok (.iload 5, 2) := by decide +kernel
theorem dX5_wallToDarken_10 : decode cX5_wallToDarken 10 = .ok (.aload_n 1, 1) := by decide +kernel
theorem dX5_wallToDarken_11 : decode cX5_wallToDarken 11 = .ok (.getfield 81, 3) := by decide +kernel
theorem dX5_wallToDarken_14 : decode cX5_wallToDarken 14 = .ok (.if_icmp .ge 33, 3) := by decide +kernel
theorem dX5_wallToDarken_17 : decode cX5_wallToDarken 17 = .ok (.aload_n 0, 1) := by decide +kernel
theorem dX5_wallToDarken_18 : decode cX5_wallToDarken 18 = .ok (.aload_n 1, 1) := by decide +kernel
theorem dX5_wallToDarken_19 : decode cX5_wallToDarken 19 = .ok (.iload 5, 2) := by decide +kernel
theorem dX5_wallToDarken_21 : decode cX5_wallToDarken 21 = .ok (.iload_n 2, 1) := by decide +kernel
theorem dX5_wallToDarken_22 : decode cX5_wallToDarken 22 = .ok (.invokevirtual 111, 3) := by decide +kernel
theorem dX5_wallToDarken_25 : decode cX5_wallToDarken 25 = .ok (.istore 6, 2) := by decide +kernel
theorem dX5_wallToDarken_27 : decode cX5_wallToDarken 27 = .ok (.iload 6, 2) := by decide +kernel
theorem dX5_wallToDarken_29 : decode cX5_wallToDarken 29 = .ok (.iload 4, 2) := by decide +kernel
theorem dX5_wallToDarken_31 : decode cX5_wallToDarken 31 = .ok (.if_icmp .le 10, 3) := by decide +kernel
theorem dX5_wallToDarken_34 : decode cX5_wallToDarken 34 = .ok (.iload 5, 2) := by decide +kernel
theorem dX5_wallToDarken_36 : decode cX5_wallToDarken 36 = .ok (.istore_n 3, 1) := by decide +kernel
theorem dX5_wallToDarken_37 : decode cX5_wallToDarken 37 = .ok (.iload 6, 2) := by decide +kernel
theorem dX5_wallToDarken_39 : decode cX5_wallToDarken 39 = .ok (.istore 4, 2) := by decide +kernel
theorem dX5_wallToDarken_41 : decode cX5_wallToDarken 41 = .ok (.iinc 5 1, 3) := by decide +kernel
theorem dX5_wallToDarken_44 : decode cX5_wallToDarken 44 = .ok (.goto (-36), 3) := by decide +kernel
theorem dX5_wallToDarken_47 : decode cX5_wallToDarken 47 = .ok (.iload_n 3, 1) := by decide +kernel
theorem dX5_wallToDarken_48 : decode cX5_wallToDarken 48 = .ok (.ireturn, 1) := by decide +kernel
theorem dX5_livingInDark_0 : decode cX5_livingInDark 0 = .ok (.iconst 0, 1) := by decide +kernel
theorem dX5_livingInDark_1 : decode cX5_livingInDark 1 = .ok (.istore 4, 2) := by decide +kernel
theorem dX5_livingInDark_3 : decode cX5_livingInDark 3 = .ok (.iconst 0, 1) := by decide +kernel
theorem dX5_livingInDark_4 : decode cX5_livingInDark 4 = .ok (.istore 5, 2) := by decide +kernel
theorem dX5_livingInDark_6 : decode cX5_livingInDark 6 = .ok (.iload 5, 2) := by decide +kernel
theorem dX5_livingInDark_8 : decode cX5_livingInDark 8 = .ok (.aload_n 1, 1) := by decide +kernel
theorem dX5_livingInDark_9 : decode cX5_livingInDark 9 = .ok (.getfield 37, 3) := by decide +kernel
theorem dX5_livingInDark_12 : decode cX5_livingInDark 12 = .ok (.if_icmp .ge 59, 3) := by decide +kernel
theorem dX5_livingInDark_15 : decode cX5_livingInDark 15 = .ok (.aload_n 0, 1) := by decide +kernel
theorem dX5_livingInDark_16 : decode cX5_livingInDark 16 = .ok (.getfield 12, 3) := by decide +kernel
theorem dX5_livingInDark_19 : decode cX5_livingInDark 19 = .ok (.aload_n 1, 1) := by decide +kernel
theorem dX5_livingInDark_20 : decode cX5_livingInDark 20 = .ok (.iload 5, 2) := by decide +kernel
theorem dX5_livingInDark_22 : decode cX5_livingInDark 22 = .ok (.invokevirtual 53, 3) := by decide +kernel
theorem dX5_livingInDark_25 : decode cX5_livingInDark 25 = .ok (.aload_n 1, 1) := by decide +kernel
theorem dX5_livingInDark_26 : decode cX5_livingInDark 26 = .ok (.getfield 114, 3) := by decide +kernel
theorem dX5_livingInDark_29 : decode cX5_livingInDark 29 = .ok (.iload 5, 2) := by decide +kernel
theorem dX5_livingInDark_31 : decode cX5_livingInDark 31 = .ok (.iaload, 1) := by decide +kernel
theorem dX5_livingInDark_32 : decode cX5_livingInDark 32 = .ok (.iload_n 2, 1) := by decide +kernel
theorem dX5_livingInDark_33 : decode cX5_livingInDark 33 = .ok (.if_icmp .ne 11, 3) := by decide +kernel
theorem dX5_livingInDark_36 : decode cX5_livingInDark 36 = .ok (.aload_n 0, 1) := by decide +kernel
theorem dX5_livingInDark_37 : decode cX5_livingInDark 37 = .ok (.getfield 12, 3) := by decide +kernel
theorem dX5_livingInDark_40 : decode cX5_livingInDark 40 = .ok (.iconst 0, 1) := by decide +kernel
theorem dX5_livingInDark_41 : decode cX5_livingInDark 41 = .ok (.putfield 117, 3) := by decide +kernel
theorem dX5_livingInDark_44 : decode cX5_livingInDark 44 = .ok (.iload 4, 2) := by decide +kernel
theorem dX5_livingInDark_46 : decode cX5_livingInDark 46 = .ok (.aload_n 0, 1) := by decide +kernel
theorem dX5_livingInDark_47 : decode cX5_livingInDark 47 = .ok (.getfield 12, 3) := by decide +kernel
theorem dX5_livingInDark_50 : decode cX5_livingInDark 50 = .ok (.iload_n 3, 1) := by decide +kernel
theorem dX5_livingInDark_51 : decode cX5_livingInDark 51 = .ok (.invokevirtual 61, 3) := by decide +kernel
theorem dX5_livingInDark_54 : decode cX5_livingInDark 54 = .ok (.ifCond .le 7, 3) := by decide +kernel
theorem dX5_livingInDark_57 : decode cX5_livingInDark 57 = .ok (.iconst 1, 1) := by decide +kernel
theorem dX5_livingInDark_58 : decode cX5_livingInDark 58 = .ok (.goto 4, 3) := by decide +kernel
theorem dX5_livingInDark_61 : decode cX5_livingInDark 61 = .ok (.iconst 0, 1) := by decide +kernel
theorem dX5_livingInDark_62 : decode cX5_livingInDark 62 = .ok (.iadd, 1) := by decide +kernel
theorem dX5_livingInDark_63 : decode cX5_livingInDark 63 = .ok (.istore 4, 2) := by decide +kernel
theorem dX5_livingInDark_65 : decode cX5_livingInDark 65 = .ok (.iinc 5 1, 3) := by decide +kernel
theorem dX5_livingInDark_68 : decode cX5_livingInDark 68 = .ok (.goto (-62), 3) := by decide +kernel
theorem dX5_livingInDark_71 : decode cX5_livingInDark 71 = .ok (.iload 4, 2) := by decide +kernel
theorem dX5_livingInDark_73 : decode cX5_livingInDark 73 = .ok (.ireturn, 1) := by decide +kernel
theorem dX5_kindsThatFit_0 : decode cX5_kindsThatFit 0 = .ok (.iconst 0, 1) := by decide +kernel
theorem dX5_kindsThatFit_1 : decode cX5_kindsThatFit 1 = .ok (.istore 4, 2) := by decide +kernel
theorem dX5_kindsThatFit_3 : decode cX5_kindsThatFit 3 = .ok (.aload_n 0, 1) := by decide +kernel
theorem dX5_kindsThatFit_4 : decode cX5_kindsThatFit 4 = .ok (.getfield 12, 3) := by decide +kernel
theorem dX5_kindsThatFit_7 : decode cX5_kindsThatFit 7 = .ok (.aload_n 1, 1) := by decide +kernel
theorem dX5_kindsThatFit_8 : decode cX5_kindsThatFit 8 = .ok (.iload_n 2, 1) := by decide +kernel
theorem dX5_kindsThatFit_9 : decode cX5_kindsThatFit 9 = .ok (.invokevirtual 53, 3) := by decide +kernel
theorem dX5_kindsThatFit_12 : decode cX5_kindsThatFit 12 = .ok (.iconst 1, 1) := by decide +kernel
theorem dX5_kindsThatFit_13 : decode cX5_kindsThatFit 13 = .ok (.istore 5, 2) := by decide +kernel
theorem dX5_kindsThatFit_15 : decode cX5_kindsThatFit 15 = .ok (.iload 5, 2) := by decide +kernel
theorem dX5_kindsThatFit_17 : decode cX5_kindsThatFit 17 = .ok (.iconst 5, 1) := by decide +kernel
theorem dX5_kindsThatFit_18 : decode cX5_kindsThatFit 18 = .ok (.if_icmp .gt 39, 3) := by decide +kernel
theorem dX5_kindsThatFit_21 : decode cX5_kindsThatFit 21 = .ok (.aload_n 0, 1) := by decide +kernel
theorem dX5_kindsThatFit_22 : decode cX5_kindsThatFit 22 = .ok (.getfield 12, 3) := by decide +kernel
theorem dX5_kindsThatFit_25 : decode cX5_kindsThatFit 25 = .ok (.iload 5, 2) := by decide +kernel
theorem dX5_kindsThatFit_27 : decode cX5_kindsThatFit 27 = .ok (.putfield 120, 3) := by decide +kernel
theorem dX5_kindsThatFit_30 : decode cX5_kindsThatFit 30 = .ok (.iload 4, 2) := by decide +kernel
theorem dX5_kindsThatFit_32 : decode cX5_kindsThatFit 32 = .ok (.aload_n 0, 1) := by decide +kernel
theorem dX5_kindsThatFit_33 : decode cX5_kindsThatFit 33 = .ok (.iload_n 3, 1) := by decide +kernel
theorem dX5_kindsThatFit_34 : decode cX5_kindsThatFit 34 = .ok (.invokevirtual 123, 3) := by decide +kernel
theorem dX5_kindsThatFit_37 : decode cX5_kindsThatFit 37 = .ok (.ifCond .eq 10, 3) := by decide +kernel
theorem dX5_kindsThatFit_40 : decode cX5_kindsThatFit 40 = .ok (.iconst 1, 1) := by decide +kernel
theorem dX5_kindsThatFit_41 : decode cX5_kindsThatFit 41 = .ok (.iload 5, 2) := by decide +kernel
theorem dX5_kindsThatFit_43 : decode cX5_kindsThatFit 43 = .ok (.ishl, 1) := by decide +kernel
theorem dX5_kindsThatFit_44 : decode cX5_kindsThatFit 44 = .ok (.goto 4, 3) := by decide +kernel
theorem dX5_kindsThatFit_47 : decode cX5_kindsThatFit 47 = .ok (.iconst 0, 1) := by decide +kernel
theorem dX5_kindsThatFit_48 : decode cX5_kindsThatFit 48 = .ok (.ior, 1) := by decide +kernel
theorem dX5_kindsThatFit_49 : decode cX5_kindsThatFit 49 = .ok (.istore 4, 2) := by decide +kernel
theorem dX5_kindsThatFit_51 : decode cX5_kindsThatFit 51 = .ok (.iinc 5 1, 3) := by decide +kernel
theorem dX5_kindsThatFit_54 : decode cX5_kindsThatFit 54 = .ok (.goto (-39), 3) := by decide +kernel
theorem dX5_kindsThatFit_57 : decode cX5_kindsThatFit 57 = .ok (.iload 4, 2) := by decide +kernel
theorem dX5_kindsThatFit_59 : decode cX5_kindsThatFit 59 = .ok (.ireturn, 1) := by decide +kernel
theorem dX5_skillsThatFit_0 : decode cX5_skillsThatFit 0 = .ok (.iconst 0, 1) := by decide +kernel
theorem dX5_skillsThatFit_1 : decode cX5_skillsThatFit 1 = .ok (.istore 4, 2) := by decide +kernel
theorem dX5_skillsThatFit_3 : decode cX5_skillsThatFit 3 = .ok (.aload_n 0, 1) := by decide +kernel
theorem dX5_skillsThatFit_4 : decode cX5_skillsThatFit 4 = .ok (.getfield 12, 3) := by decide +kernel
theorem dX5_skillsThatFit_7 : decode cX5_skillsThatFit 7 = .ok (.aload_n 1, 1) := by decide +kernel
theorem dX5_skillsThatFit_8 : decode cX5_skillsThatFit 8 = .ok (.iload_n 2, 1) := by decide +kernel
theorem dX5_skillsThatFit_9 : decode cX5_skillsThatFit 9 = .ok (.invokevirtual 53, 3) := by decide +kernel
theorem dX5_skillsThatFit_12 : decode cX5_skillsThatFit 12 = .ok (.iconst 1, 1) := by decide +kernel
theorem dX5_skillsThatFit_13 : decode cX5_skillsThatFit 13 = .ok (.istore 5, 2) := by decide +kernel
theorem dX5_skillsThatFit_15 : decode cX5_skillsThatFit 15 = .ok (.iload 5, 2) := by decide +kernel
theorem dX5_skillsThatFit_17 : decode cX5_skillsThatFit 17 = .ok (.bipush 9, 2) := by decide +kernel
theorem dX5_skillsThatFit_19 : decode cX5_skillsThatFit 19 = .ok (.if_icmp .gt 39, 3) := by decide +kernel
theorem dX5_skillsThatFit_22 : decode cX5_skillsThatFit 22 = .ok (.aload_n 0, 1) := by decide +kernel
theorem dX5_skillsThatFit_23 : decode cX5_skillsThatFit 23 = .ok (.getfield 12, 3) := by decide +kernel
theorem dX5_skillsThatFit_26 : decode cX5_skillsThatFit 26 = .ok (.iload 5, 2) := by decide +kernel
theorem dX5_skillsThatFit_28 : decode cX5_skillsThatFit 28 = .ok (.putfield 127, 3) := by decide +kernel
theorem dX5_skillsThatFit_31 : decode cX5_skillsThatFit 31 = .ok (.iload 4, 2) := by decide +kernel
theorem dX5_skillsThatFit_33 : decode cX5_skillsThatFit 33 = .ok (.aload_n 0, 1) := by decide +kernel
theorem dX5_skillsThatFit_34 : decode cX5_skillsThatFit 34 = .ok (.iload_n 3, 1) := by decide +kernel
theorem dX5_skillsThatFit_35 : decode cX5_skillsThatFit 35 = .ok (.invokevirtual 123, 3) := by decide +kernel
theorem dX5_skillsThatFit_38 : decode cX5_skillsThatFit 38 = .ok (.ifCond .eq 10, 3) := by decide +kernel
theorem dX5_skillsThatFit_41 : decode cX5_skillsThatFit 41 = .ok (.iconst 1, 1) := by decide +kernel
theorem dX5_skillsThatFit_42 : decode cX5_skillsThatFit 42 = .ok (.iload 5, 2) := by decide +kernel
theorem dX5_skillsThatFit_44 : decode cX5_skillsThatFit 44 = .ok (.ishl, 1) := by decide +kernel
theorem dX5_skillsThatFit_45 : decode cX5_skillsThatFit 45 = .ok (.goto 4, 3) := by decide +kernel
theorem dX5_skillsThatFit_48 : decode cX5_skillsThatFit 48 = .ok (.iconst 0, 1) := by decide +kernel
theorem dX5_skillsThatFit_49 : decode cX5_skillsThatFit 49 = .ok (.ior, 1) := by decide +kernel
theorem dX5_skillsThatFit_50 : decode cX5_skillsThatFit 50 = .ok (.istore 4, 2) := by decide +kernel
theorem dX5_skillsThatFit_52 : decode cX5_skillsThatFit 52 = .ok (.iinc 5 1, 3) := by decide +kernel
theorem dX5_skillsThatFit_55 : decode cX5_skillsThatFit 55 = .ok (.goto (-40), 3) := by decide +kernel
theorem dX5_skillsThatFit_58 : decode cX5_skillsThatFit 58 = .ok (.iload 4, 2) := by decide +kernel
theorem dX5_skillsThatFit_60 : decode cX5_skillsThatFit 60 = .ok (.ireturn, 1) := by decide +kernel
theorem dX5_wallsThatFit_0 : decode cX5_wallsThatFit 0 = .ok (.iconst 0, 1) := by decide +kernel
theorem dX5_wallsThatFit_1 : decode cX5_wallsThatFit 1 = .ok (.istore 4, 2) := by decide +kernel
theorem dX5_wallsThatFit_3 : decode cX5_wallsThatFit 3 = .ok (.aload_n 0, 1) := by decide +kernel
theorem dX5_wallsThatFit_4 : decode cX5_wallsThatFit 4 = .ok (.getfield 12, 3) := by decide +kernel
theorem dX5_wallsThatFit_7 : decode cX5_wallsThatFit 7 = .ok (.aload_n 1, 1) := by decide +kernel
theorem dX5_wallsThatFit_8 : decode cX5_wallsThatFit 8 = .ok (.iload_n 2, 1) := by decide +kernel
theorem dX5_wallsThatFit_9 : decode cX5_wallsThatFit 9 = .ok (.invokevirtual 53, 3) := by decide +kernel
theorem dX5_wallsThatFit_12 : decode cX5_wallsThatFit 12 = .ok (.iconst 0, 1) := by decide +kernel
theorem dX5_wallsThatFit_13 : decode cX5_wallsThatFit 13 = .ok (.istore 5, 2) := by decide +kernel
theorem dX5_wallsThatFit_15 : decode cX5_wallsThatFit 15 = .ok (.iload 5, 2) := by decide +kernel
theorem dX5_wallsThatFit_17 : decode cX5_wallsThatFit 17 = .ok (.aload_n 1, 1) := by decide +kernel
theorem dX5_wallsThatFit_18 : decode cX5_wallsThatFit 18 = .ok (.getfield 81, 3) := by decide +kernel
theorem dX5_wallsThatFit_21 : decode cX5_wallsThatFit 21 = .ok (.if_icmp .ge 40, 3) := by decide +kernel
theorem dX5_wallsThatFit_24 : decode cX5_wallsThatFit 24 = .ok (.aload_n 0, 1) := by decide +kernel
theorem dX5_wallsThatFit_25 : decode cX5_wallsThatFit 25 = .ok (.getfield 12, 3) := by decide +kernel
theorem dX5_wallsThatFit_28 : decode cX5_wallsThatFit 28 = .ok (.aload_n 1, 1) := by decide +kernel
theorem dX5_wallsThatFit_29 : decode cX5_wallsThatFit 29 = .ok (.iload 5, 2) := by decide +kernel
theorem dX5_wallsThatFit_31 : decode cX5_wallsThatFit 31 = .ok (.invokevirtual 84, 3) := by decide +kernel
theorem dX5_wallsThatFit_34 : decode cX5_wallsThatFit 34 = .ok (.iload 4, 2) := by decide +kernel
theorem dX5_wallsThatFit_36 : decode cX5_wallsThatFit 36 = .ok (.aload_n 0, 1) := by decide +kernel
theorem dX5_wallsThatFit_37 : decode cX5_wallsThatFit 37 = .ok (.iload_n 3, 1) := by decide +kernel
theorem dX5_wallsThatFit_38 : decode cX5_wallsThatFit 38 = .ok (.invokevirtual 123, 3) := by decide +kernel
theorem dX5_wallsThatFit_41 : decode cX5_wallsThatFit 41 = .ok (.ifCond .eq 10, 3) := by decide +kernel
theorem dX5_wallsThatFit_44 : decode cX5_wallsThatFit 44 = .ok (.iconst 1, 1) := by decide +kernel
theorem dX5_wallsThatFit_45 : decode cX5_wallsThatFit 45 = .ok (.iload 5, 2) := by decide +kernel
theorem dX5_wallsThatFit_47 : decode cX5_wallsThatFit 47 = .ok (.ishl, 1) := by decide +kernel
theorem dX5_wallsThatFit_48 : decode cX5_wallsThatFit 48 = .ok (.goto 4, 3) := by decide +kernel
theorem dX5_wallsThatFit_51 : decode cX5_wallsThatFit 51 = .ok (.iconst 0, 1) := by decide +kernel
theorem dX5_wallsThatFit_52 : decode cX5_wallsThatFit 52 = .ok (.ior, 1) := by decide +kernel
theorem dX5_wallsThatFit_53 : decode cX5_wallsThatFit 53 = .ok (.istore 4, 2) := by decide +kernel
theorem dX5_wallsThatFit_55 : decode cX5_wallsThatFit 55 = .ok (.iinc 5 1, 3) := by decide +kernel
theorem dX5_wallsThatFit_58 : decode cX5_wallsThatFit 58 = .ok (.goto (-43), 3) := by decide +kernel
theorem dX5_wallsThatFit_61 : decode cX5_wallsThatFit 61 = .ok (.iload 4, 2) := by decide +kernel
theorem dX5_wallsThatFit_63 : decode cX5_wallsThatFit 63 = .ok (.ireturn, 1) := by decide +kernel
theorem dX5_deedsThatFit_0 : decode cX5_deedsThatFit 0 = .ok (.iconst 0, 1) := by decide +kernel
theorem dX5_deedsThatFit_1 : decode cX5_deedsThatFit 1 = .ok (.istore 4, 2) := by decide +kernel
theorem dX5_deedsThatFit_3 : decode cX5_deedsThatFit 3 = .ok (.aload_n 0, 1) := by decide +kernel
theorem dX5_deedsThatFit_4 : decode cX5_deedsThatFit 4 = .ok (.getfield 12, 3) := by decide +kernel
theorem dX5_deedsThatFit_7 : decode cX5_deedsThatFit 7 = .ok (.aload_n 1, 1) := by decide +kernel
theorem dX5_deedsThatFit_8 : decode cX5_deedsThatFit 8 = .ok (.iload_n 2, 1) := by decide +kernel
theorem dX5_deedsThatFit_9 : decode cX5_deedsThatFit 9 = .ok (.invokevirtual 53, 3) := by decide +kernel
theorem dX5_deedsThatFit_12 : decode cX5_deedsThatFit 12 = .ok (.aload_n 0, 1) := by decide +kernel
theorem dX5_deedsThatFit_13 : decode cX5_deedsThatFit 13 = .ok (.getfield 12, 3) := by decide +kernel
theorem dX5_deedsThatFit_16 : decode cX5_deedsThatFit 16 = .ok (.getfield 100, 3) := by decide +kernel
theorem dX5_deedsThatFit_19 : decode cX5_deedsThatFit 19 = .ok (.istore 5, 2) := by decide +kernel
theorem dX5_deedsThatFit_21 : decode cX5_deedsThatFit 21 = .ok (.iconst 0, 1) := by decide +kernel
theorem dX5_deedsThatFit_22 : decode cX5_deedsThatFit 22 = .ok (.istore 6, 2) := by decide +kernel
theorem dX5_deedsThatFit_24 : decode cX5_deedsThatFit 24 = .ok (.iload 6, 2) := by decide +kernel
theorem dX5_deedsThatFit_26 : decode cX5_deedsThatFit 26 = .ok (.bipush 29, 2) := by decide +kernel
theorem dX5_deedsThatFit_28 : decode cX5_deedsThatFit 28 = .ok (.if_icmp .gt 46, 3) := by decide +kernel
theorem dX5_deedsThatFit_31 : decode cX5_deedsThatFit 31 = .ok (.aload_n 0, 1) := by decide +kernel
theorem dX5_deedsThatFit_32 : decode cX5_deedsThatFit 32 = .ok (.getfield 12, 3) := by decide +kernel
theorem dX5_deedsThatFit_35 : decode cX5_deedsThatFit 35 = .ok (.iconst 0, 1) := by decide +kernel
theorem dX5_deedsThatFit_36 : decode cX5_deedsThatFit 36 = .ok (.iload 5, 2) := by decide +kernel
theorem dX5_deedsThatFit_38 : decode cX5_deedsThatFit 38 = .ok (.iload 6, 2) := by decide +kernel
theorem dX5_deedsThatFit_40 : decode cX5_deedsThatFit 40 = .ok (.isub, 1) := by decide +kernel
theorem dX5_deedsThatFit_41 : decode cX5_deedsThatFit 41 = .ok (.invokestatic 102, 3) := by decide +kernel
theorem dX5_deedsThatFit_44 : decode cX5_deedsThatFit 44 = .ok (.putfield 100, 3) := by decide +kernel
theorem dX5_deedsThatFit_47 : decode cX5_deedsThatFit 47 = .ok (.iload 4, 2) := by decide +kernel
theorem dX5_deedsThatFit_49 : decode cX5_deedsThatFit 49 = .ok (.aload_n 0, 1) := by decide +kernel
theorem dX5_deedsThatFit_50 : decode cX5_deedsThatFit 50 = .ok (.iload_n 3, 1) := by decide +kernel
theorem dX5_deedsThatFit_51 : decode cX5_deedsThatFit 51 = .ok (.invokevirtual 123, 3) := by decide +kernel
theorem dX5_deedsThatFit_54 : decode cX5_deedsThatFit 54 = .ok (.ifCond .eq 10, 3) := by decide +kernel
theorem dX5_deedsThatFit_57 : decode cX5_deedsThatFit 57 = .ok (.iconst 1, 1) := by decide +kernel
theorem dX5_deedsThatFit_58 : decode cX5_deedsThatFit 58 = .ok (.iload 6, 2) := by decide +kernel
theorem dX5_deedsThatFit_60 : decode cX5_deedsThatFit 60 = .ok (.ishl, 1) := by decide +kernel
theorem dX5_deedsThatFit_61 : decode cX5_deedsThatFit 61 = .ok (.goto 4, 3) := by decide +kernel
theorem dX5_deedsThatFit_64 : decode cX5_deedsThatFit 64 = .ok (.iconst 0, 1) := by decide +kernel
theorem dX5_deedsThatFit_65 : decode cX5_deedsThatFit 65 = .ok (.ior, 1) := by decide +kernel
theorem dX5_deedsThatFit_66 : decode cX5_deedsThatFit 66 = .ok (.istore 4, 2) := by decide +kernel
theorem dX5_deedsThatFit_68 : decode cX5_deedsThatFit 68 = .ok (.iinc 6 1, 3) := by decide +kernel
theorem dX5_deedsThatFit_71 : decode cX5_deedsThatFit 71 = .ok (.goto (-47), 3) := by decide +kernel
theorem dX5_deedsThatFit_74 : decode cX5_deedsThatFit 74 = .ok (.iload 4, 2) := by decide +kernel
theorem dX5_deedsThatFit_76 : decode cX5_deedsThatFit 76 = .ok (.ireturn, 1) := by decide +kernel
theorem dX5_isAsTold_0 : decode cX5_isAsTold 0 = .ok (.iconst 0, 1) := by decide +kernel
theorem dX5_isAsTold_1 : decode cX5_isAsTold 1 = .ok (.istore_n 2, 1) := by decide +kernel
theorem dX5_isAsTold_2 : decode cX5_isAsTold 2 = .ok (.iload_n 2, 1) := by decide +kernel
theorem dX5_isAsTold_3 : decode cX5_isAsTold 3 = .ok (.iload_n 1, 1) := by decide +kernel
theorem dX5_isAsTold_4 : decode cX5_isAsTold 4 = .ok (.if_icmp .ge 36, 3) := by decide +kernel
theorem dX5_isAsTold_7 : decode cX5_isAsTold 7 = .ok (.iload_n 2, 1) := by decide +kernel
theorem dX5_isAsTold_8 : decode cX5_isAsTold 8 = .ok (.bipush 16, 2) := by decide +kernel
theorem dX5_isAsTold_10 : decode cX5_isAsTold 10 = .ok (.if_icmp .ge 30, 3) := by decide +kernel
theorem dX5_isAsTold_13 : decode cX5_isAsTold 13 = .ok (.aload_n 0, 1) := by decide +kernel
theorem dX5_isAsTold_14 : decode cX5_isAsTold 14 = .ok (.getfield 12, 3) := by decide +kernel
theorem dX5_isAsTold_17 : decode cX5_isAsTold 17 = .ok (.iload_n 2, 1) := by decide +kernel
theorem dX5_isAsTold_18 : decode cX5_isAsTold 18 = .ok (.iconst 1, 1) := by decide +kernel
theorem dX5_isAsTold_19 : decode cX5_isAsTold 19 = .ok (.iadd, 1) := by decide +kernel
theorem dX5_isAsTold_20 : decode cX5_isAsTold 20 = .ok (.invokevirtual 61, 3) := by decide +kernel
theorem dX5_isAsTold_23 : decode cX5_isAsTold 23 = .ok (.aload_n 0, 1) := by decide +kernel
theorem dX5_isAsTold_24 : decode cX5_isAsTold 24 = .ok (.getfield 18, 3) := by decide +kernel
theorem dX5_isAsTold_27 : decode cX5_isAsTold 27 = .ok (.iload_n 2, 1) := by decide +kernel
theorem dX5_isAsTold_28 : decode cX5_isAsTold 28 = .ok (.iaload, 1) := by decide +kernel
theorem dX5_isAsTold_29 : decode cX5_isAsTold 29 = .ok (.if_icmp .eq 5, 3) := by decide +kernel
theorem dX5_isAsTold_32 : decode cX5_isAsTold 32 = .ok (.iconst 0, 1) := by decide +kernel
theorem dX5_isAsTold_33 : decode cX5_isAsTold 33 = .ok (.ireturn, 1) := by decide +kernel
theorem dX5_isAsTold_34 : decode cX5_isAsTold 34 = .ok (.iinc 2 1, 3) := by decide +kernel
theorem dX5_isAsTold_37 : decode cX5_isAsTold 37 = .ok (.goto (-35), 3) := by decide +kernel
theorem dX5_isAsTold_40 : decode cX5_isAsTold 40 = .ok (.iconst 1, 1) := by decide +kernel
theorem dX5_isAsTold_41 : decode cX5_isAsTold 41 = .ok (.ireturn, 1) := by decide +kernel
theorem dX5_waysToKeep_0 : decode cX5_waysToKeep 0 = .ok (.iconst 0, 1) := by decide +kernel
theorem dX5_waysToKeep_1 : decode cX5_waysToKeep 1 = .ok (.istore 4, 2) := by decide +kernel
theorem dX5_waysToKeep_3 : decode cX5_waysToKeep 3 = .ok (.iconst 0, 1) := by decide +kernel
theorem dX5_waysToKeep_4 : decode cX5_waysToKeep 4 = .ok (.istore 5, 2) := by decide +kernel
theorem dX5_waysToKeep_6 : decode cX5_waysToKeep 6 = .ok (.iload 5, 2) := by decide +kernel
theorem dX5_waysToKeep_8 : decode cX5_waysToKeep 8 = .ok (.iconst 1, 1) := by decide +kernel
theorem dX5_waysToKeep_9 : decode cX5_waysToKeep 9 = .ok (.iload_n 2, 1) := by decide +kernel
theorem dX5_waysToKeep_10 : decode cX5_waysToKeep 10 = .ok (.ishl, 1) := by decide +kernel
theorem dX5_waysToKeep_11 : decode cX5_waysToKeep 11 = .ok (.if_icmp .ge 47, 3) := by decide +kernel
theorem dX5_waysToKeep_14 : decode cX5_waysToKeep 14 = .ok (.iload 5, 2) := by decide +kernel
theorem dX5_waysToKeep_16 : decode cX5_waysToKeep 16 = .ok (.invokestatic 130, 3) := by decide +kernel
theorem dX5_waysToKeep_19 : decode cX5_waysToKeep 19 = .ok (.istore 6, 2) := by decide +kernel
theorem dX5_waysToKeep_21 : decode cX5_waysToKeep 21 = .ok (.iload 6, 2) := by decide +kernel
theorem dX5_waysToKeep_23 : decode cX5_waysToKeep 23 = .ok (.iload_n 1, 1) := by decide +kernel
theorem dX5_waysToKeep_24 : decode cX5_waysToKeep 24 = .ok (.if_icmp .lt 28, 3) := by decide +kernel
theorem dX5_waysToKeep_27 : decode cX5_waysToKeep 27 = .ok (.iload 4, 2) := by decide +kernel
theorem dX5_waysToKeep_29 : decode cX5_waysToKeep 29 = .ok (.aload_n 0, 1) := by decide +kernel
theorem dX5_waysToKeep_30 : decode cX5_waysToKeep 30 = .ok (.bipush 10, 2) := by decide +kernel
theorem dX5_waysToKeep_32 : decode cX5_waysToKeep 32 = .ok (.iload_n 3, 1) := by decide +kernel
theorem dX5_waysToKeep_33 : decode cX5_waysToKeep 33 = .ok (.isub, 1) := by decide +kernel
theorem dX5_waysToKeep_34 : decode cX5_waysToKeep 34 = .ok (.iload 6, 2) := by decide +kernel
theorem dX5_waysToKeep_36 : decode cX5_waysToKeep 36 = .ok (.invokevirtual 135, 3) := by decide +kernel
theorem dX5_waysToKeep_39 : decode cX5_waysToKeep 39 = .ok (.aload_n 0, 1) := by decide +kernel
theorem dX5_waysToKeep_40 : decode cX5_waysToKeep 40 = .ok (.iload_n 3, 1) := by decide +kernel
theorem dX5_waysToKeep_41 : decode cX5_waysToKeep 41 = .ok (.iload_n 2, 1) := by decide +kernel
theorem dX5_waysToKeep_42 : decode cX5_waysToKeep 42 = .ok (.iload 6, 2) := by decide +kernel
theorem dX5_waysToKeep_44 : decode cX5_waysToKeep 44 = .ok (.isub, 1) := by decide +kernel
theorem dX5_waysToKeep_45 : decode cX5_waysToKeep 45 = .ok (.invokevirtual 135, 3) := by decide +kernel
theorem dX5_waysToKeep_48 : decode cX5_waysToKeep 48 = .ok (.imul, 1) := by decide +kernel
theorem dX5_waysToKeep_49 : decode cX5_waysToKeep 49 = .ok (.iadd, 1) := by decide +kernel
theorem dX5_waysToKeep_50 : decode cX5_waysToKeep 50 = .ok (.istore 4, 2) := by decide +kernel
theorem dX5_waysToKeep_52 : decode cX5_waysToKeep 52 = .ok (.iinc 5 1, 3) := by decide +kernel
theorem dX5_waysToKeep_55 : decode cX5_waysToKeep 55 = .ok (.goto (-49), 3) := by decide +kernel
theorem dX5_waysToKeep_58 : decode cX5_waysToKeep 58 = .ok (.iload 4, 2) := by decide +kernel
theorem dX5_waysToKeep_60 : decode cX5_waysToKeep 60 = .ok (.ireturn, 1) := by decide +kernel
theorem dX5_power_0 : decode cX5_power 0 = .ok (.iconst 1, 1) := by decide +kernel
theorem dX5_power_1 : decode cX5_power 1 = .ok (.istore_n 3, 1) := by decide +kernel
theorem dX5_power_2 : decode cX5_power 2 = .ok (.iconst 0, 1) := by decide +kernel
theorem dX5_power_3 : decode cX5_power 3 = .ok (.istore 4, 2) := by decide +kernel
theorem dX5_power_5 : decode cX5_power 5 = .ok (.iload 4, 2) := by decide +kernel
theorem dX5_power_7 : decode cX5_power 7 = .ok (.iload_n 2, 1) := by decide +kernel
theorem dX5_power_8 : decode cX5_power 8 = .ok (.if_icmp .ge 13, 3) := by decide +kernel
theorem dX5_power_11 : decode cX5_power 11 = .ok (.iload_n 3, 1) := by decide +kernel
theorem dX5_power_12 : decode cX5_power 12 = .ok (.iload_n 1, 1) := by decide +kernel
theorem dX5_power_13 : decode cX5_power 13 = .ok (.imul, 1) := by decide +kernel
theorem dX5_power_14 : decode cX5_power 14 = .ok (.istore_n 3, 1) := by decide +kernel
theorem dX5_power_15 : decode cX5_power 15 = .ok (.iinc 4 1, 3) := by decide +kernel
theorem dX5_power_18 : decode cX5_power 18 = .ok (.goto (-13), 3) := by decide +kernel
theorem dX5_power_21 : decode cX5_power 21 = .ok (.iload_n 3, 1) := by decide +kernel
theorem dX5_power_22 : decode cX5_power 22 = .ok (.ireturn, 1) := by decide +kernel
theorem dX5_commonDivisor_0 : decode cX5_commonDivisor 0 = .ok (.iload_n 1, 1) := by decide +kernel
theorem dX5_commonDivisor_1 : decode cX5_commonDivisor 1 = .ok (.istore_n 3, 1) := by decide +kernel
theorem dX5_commonDivisor_2 : decode cX5_commonDivisor 2 = .ok (.iload_n 2, 1) := by decide +kernel
theorem dX5_commonDivisor_3 : decode cX5_commonDivisor 3 = .ok (.istore 4, 2) := by decide +kernel
theorem dX5_commonDivisor_5 : decode cX5_commonDivisor 5 = .ok (.iconst 0, 1) := by decide +kernel
theorem dX5_commonDivisor_6 : decode cX5_commonDivisor 6 = .ok (.istore 5, 2) := by decide +kernel
theorem dX5_commonDivisor_8 : decode cX5_commonDivisor 8 = .ok (.iload 5, 2) := by decide +kernel
theorem dX5_commonDivisor_10 : decode cX5_commonDivisor 10 = .ok (.bipush 64, 2) := by decide +kernel
theorem dX5_commonDivisor_12 : decode cX5_commonDivisor 12 = .ok (.if_icmp .ge 27, 3) := by decide +kernel
theorem dX5_commonDivisor_15 : decode cX5_commonDivisor 15 = .ok (.iload 4, 2) := by decide +kernel
theorem dX5_commonDivisor_17 : decode cX5_commonDivisor 17 = .ok (.ifCond .eq 22, 3) := by decide +kernel
theorem dX5_commonDivisor_20 : decode cX5_commonDivisor 20 = .ok (.iload_n 3, 1) := by decide +kernel
theorem dX5_commonDivisor_21 : decode cX5_commonDivisor 21 = .ok (.iload 4, 2) := by decide +kernel
theorem dX5_commonDivisor_23 : decode cX5_commonDivisor 23 = .ok (.irem, 1) := by decide +kernel
theorem dX5_commonDivisor_24 : decode cX5_commonDivisor 24 = .ok (.istore 6, 2) := by decide +kernel
theorem dX5_commonDivisor_26 : decode cX5_commonDivisor 26 = .ok (.iload 4, 2) := by decide +kernel
theorem dX5_commonDivisor_28 : decode cX5_commonDivisor 28 = .ok (.istore_n 3, 1) := by decide +kernel
theorem dX5_commonDivisor_29 : decode cX5_commonDivisor 29 = .ok (.iload 6, 2) := by decide +kernel
theorem dX5_commonDivisor_31 : decode cX5_commonDivisor 31 = .ok (.istore 4, 2) := by decide +kernel
theorem dX5_commonDivisor_33 : decode cX5_commonDivisor 33 = .ok (.iinc 5 1, 3) := by decide +kernel
theorem dX5_commonDivisor_36 : decode cX5_commonDivisor 36 = .ok (.goto (-28), 3) := by decide +kernel
theorem dX5_commonDivisor_39 : decode cX5_commonDivisor 39 = .ok (.iconst 1, 1) := by decide +kernel
theorem dX5_commonDivisor_40 : decode cX5_commonDivisor 40 = .ok (.iload_n 3, 1) := by decide +kernel
theorem dX5_commonDivisor_41 : decode cX5_commonDivisor 41 = .ok (.invokestatic 102, 3) := by decide +kernel
theorem dX5_commonDivisor_44 : decode cX5_commonDivisor 44 = .ok (.ireturn, 1) := by decide +kernel
theorem dX5_draw_0 : decode cX5_draw 0 = .ok (.aload_n 1, 1) := by decide +kernel
theorem dX5_draw_1 : decode cX5_draw 1 = .ok (.getfield 43, 3) := by decide +kernel
theorem dX5_draw_4 : decode cX5_draw 4 = .ok (.iconst 0, 1) := by decide +kernel
theorem dX5_draw_5 : decode cX5_draw 5 = .ok (.aload_n 0, 1) := by decide +kernel
theorem dX5_draw_6 : decode cX5_draw 6 = .ok (.getfield 34, 3) := by decide +kernel
theorem dX5_draw_9 : decode cX5_draw 9 = .ok (.iconst 0, 1) := by decide +kernel
theorem dX5_draw_10 : decode cX5_draw 10 = .ok (.iconst 5, 1) := by decide +kernel
theorem dX5_draw_11 : decode cX5_draw 11 = .ok (.invokestatic 94, 3) := by decide +kernel
theorem dX5_draw_14 : decode cX5_draw 14 = .ok (.iload_n 3, 1) := by decide +kernel
theorem dX5_draw_15 : decode cX5_draw 15 = .ok (.i2l, 1) := by decide +kernel
theorem dX5_draw_16 : decode cX5_draw 16 = .ok (.lstore 4, 2) := by decide +kernel
theorem dX5_draw_18 : decode cX5_draw 18 = .ok (.iconst 0, 1) := by decide +kernel
theorem dX5_draw_19 : decode cX5_draw 19 = .ok (.istore 6, 2) := by decide +kernel
theorem dX5_draw_21 : decode cX5_draw 21 = .ok (.iload 6, 2) := by decide +kernel
theorem dX5_draw_23 : decode cX5_draw 23 = .ok (.iload_n 2, 1) := by decide +kernel
theorem dX5_draw_24 : decode cX5_draw 24 = .ok (.if_icmp .ge 72, 3) := by decide +kernel
theorem dX5_draw_27 : decode cX5_draw 27 = .ok (.lload 4, 2) := by decide +kernel
theorem dX5_draw_29 : decode cX5_draw 29 = .ok (.ldc2_w 138, 3) := by decide +kernel
theorem dX5_draw_32 : decode cX5_draw 32 = .ok (.lmul, 1) := by decide +kernel
theorem dX5_draw_33 : decode cX5_draw 33 = .ok (.ldc2_w 140, 3) := by decide +kernel
theorem dX5_draw_36 : decode cX5_draw 36 = .ok (.lrem, 1) := by decide +kernel
theorem dX5_draw_37 : decode cX5_draw 37 = .ok (.lstore 4, 2) := by decide +kernel
theorem dX5_draw_39 : decode cX5_draw 39 = .ok (.aload_n 1, 1) := by decide +kernel
theorem dX5_draw_40 : decode cX5_draw 40 = .ok (.getfield 37, 3) := by decide +kernel
theorem dX5_draw_43 : decode cX5_draw 43 = .ok (.ifCond .le 40, 3) := by decide +kernel
theorem dX5_draw_46 : decode cX5_draw 46 = .ok (.lload 4, 2) := by decide +kernel
theorem dX5_draw_48 : decode cX5_draw 48 = .ok (.aload_n 1, 1) := by decide +kernel
theorem dX5_draw_49 : decode cX5_draw 49 = .ok (.getfield 37, 3) := by decide +kernel
theorem dX5_draw_52 : decode cX5_draw 52 = .ok (.i2l, 1) := by decide +kernel
theorem dX5_draw_53 : decode cX5_draw 53 = .ok (.lrem, 1) := by decide +kernel
theorem dX5_draw_54 : decode cX5_draw 54 = .ok (.l2i, 1) := by decide +kernel
theorem dX5_draw_55 : decode cX5_draw 55 = .ok (.istore 7, 2) := by decide +kernel
theorem dX5_draw_57 : decode cX5_draw 57 = .ok (.aload_n 0, 1) := by decide +kernel
theorem dX5_draw_58 : decode cX5_draw 58 = .ok (.getfield 34, 3) := by decide +kernel
theorem dX5_draw_61 : decode cX5_draw 61 = .ok (.iload 7, 2) := by decide +kernel
theorem dX5_draw_63 : decode cX5_draw 63 = .ok (.iconst 0, 1) := by decide +kernel
theorem dX5_draw_64 : decode cX5_draw 64 = .ok (.aload_n 0, 1) := by decide +kernel
theorem dX5_draw_65 : decode cX5_draw 65 = .ok (.getfield 34, 3) := by decide +kernel
theorem dX5_draw_68 : decode cX5_draw 68 = .ok (.iload 7, 2) := by decide +kernel
theorem dX5_draw_70 : decode cX5_draw 70 = .ok (.iaload, 1) := by decide +kernel
theorem dX5_draw_71 : decode cX5_draw 71 = .ok (.lload 4, 2) := by decide +kernel
theorem dX5_draw_73 : decode cX5_draw 73 = .ok (.ldc2_w 142, 3) := by decide +kernel
theorem dX5_draw_76 : decode cX5_draw 76 = .ok (.lrem, 1) := by decide +kernel
theorem dX5_draw_77 : decode cX5_draw 77 = .ok (.l2i, 1) := by decide +kernel
theorem dX5_draw_78 : decode cX5_draw 78 = .ok (.isub, 1) := by decide +kernel
theorem dX5_draw_79 : decode cX5_draw 79 = .ok (.invokestatic 102, 3) := by decide +kernel
theorem dX5_draw_82 : decode cX5_draw 82 = .ok (.iastore, 1) := by decide +kernel
theorem dX5_draw_83 : decode cX5_draw 83 = .ok (.aload_n 0, 1) := by decide +kernel
theorem dX5_draw_84 : decode cX5_draw 84 = .ok (.aload_n 1, 1) := by decide +kernel
theorem dX5_draw_85 : decode cX5_draw 85 = .ok (.iload 6, 2) := by decide +kernel
theorem dX5_draw_87 : decode cX5_draw 87 = .ok (.invokevirtual 144, 3) := by decide +kernel
theorem dX5_draw_90 : decode cX5_draw 90 = .ok (.iinc 6 1, 3) := by decide +kernel
theorem dX5_draw_93 : decode cX5_draw 93 = .ok (.goto (-72), 3) := by decide +kernel
theorem dX5_draw_96 : decode cX5_draw 96 = .ok (.return_, 1) := by decide +kernel
theorem dX5_passDrawn_0 : decode cX5_passDrawn 0 = .ok (.iconst 0, 1) := by decide +kernel
theorem dX5_passDrawn_1 : decode cX5_passDrawn 1 = .ok (.istore_n 3, 1) := by decide +kernel
theorem dX5_passDrawn_2 : decode cX5_passDrawn 2 = .ok (.iload_n 3, 1) := by decide +kernel
theorem dX5_passDrawn_3 : decode cX5_passDrawn 3 = .ok (.aload_n 1, 1) := by decide +kernel
theorem dX5_passDrawn_4 : decode cX5_passDrawn 4 = .ok (.getfield 37, 3) := by decide +kernel
theorem dX5_passDrawn_7 : decode cX5_passDrawn 7 = .ok (.if_icmp .ge 58, 3) := by decide +kernel
theorem dX5_passDrawn_10 : decode cX5_passDrawn 10 = .ok (.aload_n 0, 1) := by decide +kernel
theorem dX5_passDrawn_11 : decode cX5_passDrawn 11 = .ok (.getfield 12, 3) := by decide +kernel
theorem dX5_passDrawn_14 : decode cX5_passDrawn 14 = .ok (.aload_n 1, 1) := by decide +kernel
theorem dX5_passDrawn_15 : decode cX5_passDrawn 15 = .ok (.iload_n 3, 1) := by decide +kernel
theorem dX5_passDrawn_16 : decode cX5_passDrawn 16 = .ok (.invokevirtual 53, 3) := by decide +kernel
theorem dX5_passDrawn_19 : decode cX5_passDrawn 19 = .ok (.aload_n 0, 1) := by decide +kernel
theorem dX5_passDrawn_20 : decode cX5_passDrawn 20 = .ok (.getfield 12, 3) := by decide +kernel
theorem dX5_passDrawn_23 : decode cX5_passDrawn 23 = .ok (.aload_n 0, 1) := by decide +kernel
theorem dX5_passDrawn_24 : decode cX5_passDrawn 24 = .ok (.getfield 34, 3) := by decide +kernel
theorem dX5_passDrawn_27 : decode cX5_passDrawn 27 = .ok (.iload_n 3, 1) := by decide +kernel
theorem dX5_passDrawn_28 : decode cX5_passDrawn 28 = .ok (.iaload, 1) := by decide +kernel
theorem dX5_passDrawn_29 : decode cX5_passDrawn 29 = .ok (.putfield 100, 3) := by decide +kernel
theorem dX5_passDrawn_32 : decode cX5_passDrawn 32 = .ok (.aload_n 0, 1) := by decide +kernel
theorem dX5_passDrawn_33 : decode cX5_passDrawn 33 = .ok (.getfield 12, 3) := by decide +kernel
theorem dX5_passDrawn_36 : decode cX5_passDrawn 36 = .ok (.aload_n 1, 1) := by decide +kernel
theorem dX5_passDrawn_37 : decode cX5_passDrawn 37 = .ok (.getfield 50, 3) := by decide +kernel
theorem dX5_passDrawn_40 : decode cX5_passDrawn 40 = .ok (.iload_n 2, 1) := by decide +kernel
theorem dX5_passDrawn_41 : decode cX5_passDrawn 41 = .ok (.iadd, 1) := by decide +kernel
theorem dX5_passDrawn_42 : decode cX5_passDrawn 42 = .ok (.putfield 147, 3) := by decide +kernel
theorem dX5_passDrawn_45 : decode cX5_passDrawn 45 = .ok (.aload_n 0, 1) := by decide +kernel
theorem dX5_passDrawn_46 : decode cX5_passDrawn 46 = .ok (.getfield 34, 3) := by decide +kernel
theorem dX5_passDrawn_49 : decode cX5_passDrawn 49 = .ok (.iload_n 3, 1) := by decide +kernel
theorem dX5_passDrawn_50 : decode cX5_passDrawn 50 = .ok (.aload_n 0, 1) := by decide +kernel
theorem dX5_passDrawn_51 : decode cX5_passDrawn 51 = .ok (.getfield 12, 3) := by decide +kernel
theorem dX5_passDrawn_54 : decode cX5_passDrawn 54 = .ok (.iconst 1, 1) := by decide +kernel
theorem dX5_passDrawn_55 : decode cX5_passDrawn 55 = .ok (.invokevirtual 61, 3) := by decide +kernel
theorem dX5_passDrawn_58 : decode cX5_passDrawn 58 = .ok (.iastore, 1) := by decide +kernel
theorem dX5_passDrawn_59 : decode cX5_passDrawn 59 = .ok (.iinc 3 1, 3) := by decide +kernel
theorem dX5_passDrawn_62 : decode cX5_passDrawn 62 = .ok (.goto (-60), 3) := by decide +kernel
theorem dX5_passDrawn_65 : decode cX5_passDrawn 65 = .ok (.return_, 1) := by decide +kernel
theorem dX5_agedLiving_0 : decode cX5_agedLiving 0 = .ok (.iconst 0, 1) := by decide +kernel
theorem dX5_agedLiving_1 : decode cX5_agedLiving 1 = .ok (.istore_n 2, 1) := by decide +kernel
theorem dX5_agedLiving_2 : decode cX5_agedLiving 2 = .ok (.iconst 0, 1) := by decide +kernel
theorem dX5_agedLiving_3 : decode cX5_agedLiving 3 = .ok (.istore_n 3, 1) := by decide +kernel
theorem dX5_agedLiving_4 : decode cX5_agedLiving 4 = .ok (.iload_n 3, 1) := by decide +kernel
theorem dX5_agedLiving_5 : decode cX5_agedLiving 5 = .ok (.aload_n 1, 1) := by decide +kernel
theorem dX5_agedLiving_6 : decode cX5_agedLiving 6 = .ok (.getfield 37, 3) := by decide +kernel
theorem dX5_agedLiving_9 : decode cX5_agedLiving 9 = .ok (.if_icmp .ge 28, 3) := by decide +kernel
theorem dX5_agedLiving_12 : decode cX5_agedLiving 12 = .ok (.iload_n 2, 1) := by decide +kernel
theorem dX5_agedLiving_13 : decode cX5_agedLiving 13 = .ok (.aload_n 0, 1) := by decide +kernel
theorem dX5_agedLiving_14 : decode cX5_agedLiving 14 = .ok (.getfield 34, 3) := by decide +kernel
theorem dX5_agedLiving_17 : decode cX5_agedLiving 17 = .ok (.iload_n 3, 1) := by decide +kernel
theorem dX5_agedLiving_18 : decode cX5_agedLiving 18 = .ok (.iaload, 1) := by decide +kernel
theorem dX5_agedLiving_19 : decode cX5_agedLiving 19 = .ok (.ifCond .le 9, 3) := by decide +kernel
theorem dX5_agedLiving_22 : decode cX5_agedLiving 22 = .ok (.iconst 1, 1) := by decide +kernel
theorem dX5_agedLiving_23 : decode cX5_agedLiving 23 = .ok (.iload_n 3, 1) := by decide +kernel
theorem dX5_agedLiving_24 : decode cX5_agedLiving 24 = .ok (.ishl, 1) := by decide +kernel
theorem dX5_agedLiving_25 : decode cX5_agedLiving 25 = .ok (.goto 4, 3) := by decide +kernel
theorem dX5_agedLiving_28 : decode cX5_agedLiving 28 = .ok (.iconst 0, 1) := by decide +kernel
theorem dX5_agedLiving_29 : decode cX5_agedLiving 29 = .ok (.ior, 1) := by decide +kernel
theorem dX5_agedLiving_30 : decode cX5_agedLiving 30 = .ok (.istore_n 2, 1) := by decide +kernel
theorem dX5_agedLiving_31 : decode cX5_agedLiving 31 = .ok (.iinc 3 1, 3) := by decide +kernel
theorem dX5_agedLiving_34 : decode cX5_agedLiving 34 = .ok (.goto (-30), 3) := by decide +kernel
theorem dX5_agedLiving_37 : decode cX5_agedLiving 37 = .ok (.iload_n 2, 1) := by decide +kernel
theorem dX5_agedLiving_38 : decode cX5_agedLiving 38 = .ok (.ireturn, 1) := by decide +kernel
theorem dX5_agedCells_0 : decode cX5_agedCells 0 = .ok (.iconst 0, 1) := by decide +kernel
theorem dX5_agedCells_1 : decode cX5_agedCells 1 = .ok (.istore_n 2, 1) := by decide +kernel
theorem dX5_agedCells_2 : decode cX5_agedCells 2 = .ok (.iconst 0, 1) := by decide +kernel
theorem dX5_agedCells_3 : decode cX5_agedCells 3 = .ok (.istore_n 3, 1) := by decide +kernel
theorem dX5_agedCells_4 : decode cX5_agedCells 4 = .ok (.iload_n 3, 1) := by decide +kernel
theorem dX5_agedCells_5 : decode cX5_agedCells 5 = .ok (.aload_n 1, 1) := by decide +kernel
theorem dX5_agedCells_6 : decode cX5_agedCells 6 = .ok (.getfield 37, 3) := by decide +kernel
theorem dX5_agedCells_9 : decode cX5_agedCells 9 = .ok (.if_icmp .ge 18, 3) := by decide +kernel
theorem dX5_agedCells_12 : decode cX5_agedCells 12 = .ok (.iload_n 2, 1) := by decide +kernel
theorem dX5_agedCells_13 : decode cX5_agedCells 13 = .ok (.aload_n 0, 1) := by decide +kernel
theorem dX5_agedCells_14 : decode cX5_agedCells 14 = .ok (.getfield 34, 3) := by decide +kernel
theorem dX5_agedCells_17 : decode cX5_agedCells 17 = .ok (.iload_n 3, 1) := by decide +kernel
theorem dX5_agedCells_18 : decode cX5_agedCells 18 = .ok (.iaload, 1) := by decide +kernel
theorem dX5_agedCells_19 : decode cX5_agedCells 19 = .ok (.iadd, 1) := by decide +kernel
theorem dX5_agedCells_20 : decode cX5_agedCells 20 = .ok (.istore_n 2, 1) := by decide +kernel
theorem dX5_agedCells_21 : decode cX5_agedCells 21 = .ok (.iinc 3 1, 3) := by decide +kernel
theorem dX5_agedCells_24 : decode cX5_agedCells 24 = .ok (.goto (-20), 3) := by decide +kernel
theorem dX5_agedCells_27 : decode cX5_agedCells 27 = .ok (.iload_n 2, 1) := by decide +kernel
theorem dX5_agedCells_28 : decode cX5_agedCells 28 = .ok (.ireturn, 1) := by decide +kernel
theorem dX6_init_0 : decode cX6_init 0 = .ok (.aload_n 0, 1) := by decide +kernel
theorem dX6_init_1 : decode cX6_init 1 = .ok (.invokespecial 3, 3) := by decide +kernel
theorem dX6_init_4 : decode cX6_init 4 = .ok (.aload_n 0, 1) := by decide +kernel
theorem dX6_init_5 : decode cX6_init 5 = .ok (.bipush 100, 2) := by decide +kernel
theorem dX6_init_7 : decode cX6_init 7 = .ok (.newarray .int, 2) := by decide +kernel
theorem dX6_init_9 : decode cX6_init 9 = .ok (.putfield 11, 3) := by decide +kernel
theorem dX6_init_12 : decode cX6_init 12 = .ok (.return_, 1) := by decide +kernel
theorem dX6_add_0 : decode cX6_add 0 = .ok (.aload_n 0, 1) := by decide +kernel
theorem dX6_add_1 : decode cX6_add 1 = .ok (.getfield 15, 3) := by decide +kernel
theorem dX6_add_4 : decode cX6_add 4 = .ok (.bipush 100, 2) := by decide +kernel
theorem dX6_add_6 : decode cX6_add 6 = .ok (.if_icmp .lt 5, 3) := by decide +kernel
theorem dX6_add_9 : decode cX6_add 9 = .ok (.iconst 0, 1) := by decide +kernel
theorem dX6_add_10 : decode cX6_add 10 = .ok (.ireturn, 1) := by decide +kernel
theorem dX6_add_11 : decode cX6_add 11 = .ok (.aload_n 0, 1) := by decide +kernel
theorem dX6_add_12 : decode cX6_add 12 = .ok (.getfield 11, 3) := by decide +kernel
theorem dX6_add_15 : decode cX6_add 15 = .ok (.aload_n 0, 1) := by decide +kernel
theorem dX6_add_16 : decode cX6_add 16 = .ok (.getfield 15, 3) := by decide +kernel
theorem dX6_add_19 : decode cX6_add 19 = .ok (.iload_n 1, 1) := by decide +kernel
theorem dX6_add_20 : decode cX6_add 20 = .ok (.iastore, 1) := by decide +kernel
theorem dX6_add_21 : decode cX6_add 21 = .ok (.aload_n 0, 1) := by decide +kernel
theorem dX6_add_22 : decode cX6_add 22 = .ok (.dup, 1) := by decide +kernel
theorem dX6_add_23 : decode cX6_add 23 = .ok (.getfield 15, 3) := by decide +kernel
theorem dX6_add_26 : decode cX6_add 26 = .ok (.iconst 1, 1) := by decide +kernel
theorem dX6_add_27 : decode cX6_add 27 = .ok (.iadd, 1) := by decide +kernel
theorem dX6_add_28 : decode cX6_add 28 = .ok (.putfield 15, 3) := by decide +kernel
theorem dX6_add_31 : decode cX6_add 31 = .ok (.iconst 1, 1) := by decide +kernel
theorem dX6_add_32 : decode cX6_add 32 = .ok (.ireturn, 1) := by decide +kernel
theorem dX6_clear_0 : decode cX6_clear 0 = .ok (.aload_n 0, 1) := by decide +kernel
theorem dX6_clear_1 : decode cX6_clear 1 = .ok (.iconst 0, 1) := by decide +kernel
theorem dX6_clear_2 : decode cX6_clear 2 = .ok (.putfield 15, 3) := by decide +kernel
theorem dX6_clear_5 : decode cX6_clear 5 = .ok (.return_, 1) := by decide +kernel
theorem dX6_readInto_0 : decode cX6_readInto 0 = .ok (.aload_n 0, 1) := by decide +kernel
theorem dX6_readInto_1 : decode cX6_readInto 1 = .ok (.iconst 0, 1) := by decide +kernel
theorem dX6_readInto_2 : decode cX6_readInto 2 = .ok (.putfield 19, 3) := by decide +kernel
theorem dX6_readInto_5 : decode cX6_readInto 5 = .ok (.aload_n 1, 1) := by decide +kernel
theorem dX6_readInto_6 : decode cX6_readInto 6 = .ok (.invokevirtual 22, 3) := by decide +kernel
theorem dX6_readInto_9 : decode cX6_readInto 9 = .ok (.aload_n 0, 1) := by decide +kernel
theorem dX6_readInto_10 : decode cX6_readInto 10 = .ok (.aload_n 1, 1) := by decide +kernel
theorem dX6_readInto_11 : decode cX6_readInto 11 = .ok (.invokevirtual 27, 3) := by decide +kernel
theorem dX6_readInto_14 : decode cX6_readInto 14 = .ok (.ifCond .eq 19, 3) := by decide +kernel
theorem dX6_readInto_17 : decode cX6_readInto 17 = .ok (.aload_n 0, 1) := by decide +kernel
theorem dX6_readInto_18 : decode cX6_readInto 18 = .ok (.aload_n 1, 1) := by decide +kernel
theorem dX6_readInto_19 : decode cX6_readInto 19 = .ok (.invokevirtual 31, 3) := by decide +kernel
theorem dX6_readInto_22 : decode cX6_readInto 22 = .ok (.ifCond .eq 11, 3) := by decide +kernel
theorem dX6_readInto_25 : decode cX6_readInto 25 = .ok (.aload_n 0, 1) := by decide +kernel
theorem dX6_readInto_26 : decode cX6_readInto 26 = .ok (.aload_n 1, 1) := by decide +kernel
theorem dX6_readInto_27 : decode cX6_readInto 27 = .ok (.invokevirtual 34, 3) := by decide +kernel
theorem dX6_readInto_30 : decode cX6_readInto 30 = .ok (.ifCond .ne 5, 3) := by decide +kernel
theorem dX6_readInto_33 : decode cX6_readInto 33 = .ok (.iconst 0, 1) := by decide +kernel
theorem dX6_readInto_34 : decode cX6_readInto 34 = .ok (.ireturn, 1) := by decide +kernel
theorem dX6_readInto_35 : decode cX6_readInto 35 = .ok (.aload_n 1, 1) := by decide +kernel
theorem dX6_readInto_36 : decode cX6_readInto 36 = .ok (.iconst 1, 1) := by decide +kernel
theorem dX6_readInto_37 : decode cX6_readInto 37 = .ok (.putfield 37, 3) := by decide +kernel
theorem dX6_readInto_40 : decode cX6_readInto 40 = .ok (.iconst 1, 1) := by decide +kernel
theorem dX6_readInto_41 : decode cX6_readInto 41 = .ok (.ireturn, 1) := by decide +kernel
theorem dX6_readLaw_0 : decode cX6_readLaw 0 = .ok (.aload_n 0, 1) := by decide +kernel
theorem dX6_readLaw_1 : decode cX6_readLaw 1 = .ok (.bipush 103, 2) := by decide +kernel
theorem dX6_readLaw_3 : decode cX6_readLaw 3 = .ok (.invokevirtual 41, 3) := by decide +kernel
theorem dX6_readLaw_6 : decode cX6_readLaw 6 = .ok (.ifCond .ne 5, 3) := by decide +kernel
theorem dX6_readLaw_9 : decode cX6_readLaw 9 = .ok (.iconst 0, 1) := by decide +kernel
theorem dX6_readLaw_10 : decode cX6_readLaw 10 = .ok (.ireturn, 1) := by decide +kernel
theorem dX6_readLaw_11 : decode cX6_readLaw 11 = .ok (.aload_n 1, 1) := by decide +kernel
theorem dX6_readLaw_12 : decode cX6_readLaw 12 = .ok (.aload_n 0, 1) := by decide +kernel
theorem dX6_readLaw_13 : decode cX6_readLaw 13 = .ok (.iconst 1, 1) := by decide +kernel
theorem dX6_readLaw_14 : decode cX6_readLaw 14 = .ok (.iconst 5, 1) := by decide +kernel
theorem dX6_readLaw_15 : decode cX6_readLaw 15 = .ok (.invokevirtual 45, 3) := by decide +kernel
theorem dX6_readLaw_18 : decode cX6_readLaw 18 = .ok (.putfield 49, 3) := by decide +kernel
theorem dX6_readLaw_21 : decode cX6_readLaw 21 = .ok (.aload_n 1, 1) := by decide +kernel
theorem dX6_readLaw_22 : decode cX6_readLaw 22 = .ok (.getfield 49, 3) := by decide +kernel
theorem dX6_readLaw_25 : decode cX6_readLaw 25 = .ok (.ifCond .lt 12, 3) := by decide +kernel
theorem dX6_readLaw_28 : decode cX6_readLaw 28 = .ok (.aload_n 0, 1) := by decide +kernel
theorem dX6_readLaw_29 : decode cX6_readLaw 29 = .ok (.bipush 44, 2) := by decide +kernel
theorem dX6_readLaw_31 : decode cX6_readLaw 31 = .ok (.invokevirtual 41, 3) := by decide +kernel
theorem dX6_readLaw_34 : decode cX6_readLaw 34 = .ok (.ifCond .ne 5, 3) := by decide +kernel
theorem dX6_readLaw_37 : decode cX6_readLaw 37 = .ok (.iconst 0, 1) := by decide +kernel
theorem dX6_readLaw_38 : decode cX6_readLaw 38 = .ok (.ireturn, 1) := by decide +kernel
theorem dX6_readLaw_39 : decode cX6_readLaw 39 = .ok (.aload_n 1, 1) := by decide +kernel
theorem dX6_readLaw_40 : decode cX6_readLaw 40 = .ok (.aload_n 0, 1) := by decide +kernel
theorem dX6_readLaw_41 : decode cX6_readLaw 41 = .ok (.iconst 0, 1) := by decide +kernel
theorem dX6_readLaw_42 : decode cX6_readLaw 42 = .ok (.bipush 99, 2) := by decide +kernel
theorem dX6_readLaw_44 : decode cX6_readLaw 44 = .ok (.invokevirtual 45, 3) := by decide +kernel
theorem dX6_readLaw_47 : decode cX6_readLaw 47 = .ok (.putfield 52, 3) := by decide +kernel
theorem dX6_readLaw_50 : decode cX6_readLaw 50 = .ok (.aload_n 1, 1) := by decide +kernel
theorem dX6_readLaw_51 : decode cX6_readLaw 51 = .ok (.getfield 52, 3) := by decide +kernel
theorem dX6_readLaw_54 : decode cX6_readLaw 54 = .ok (.ifCond .lt 16, 3) := by decide +kernel
theorem dX6_readLaw_57 : decode cX6_readLaw 57 = .ok (.aload_n 0, 1) := by decide +kernel
theorem dX6_readLaw_58 : decode cX6_readLaw 58 = .ok (.bipush 59, 2) := by decide +kernel
theorem dX6_readLaw_60 : decode cX6_readLaw 60 = .ok (.invokevirtual 41, 3) := by decide +kernel
theorem dX6_readLaw_63 : decode cX6_readLaw 63 = .ok (.ifCond .eq 7, 3) := by decide +kernel
theorem dX6_readLaw_66 : decode cX6_readLaw 66 = .ok (.iconst 1, 1) := by decide +kernel
theorem dX6_readLaw_67 : decode cX6_readLaw 67 = .ok (.goto 4, 3) := by decide +kernel
theorem dX6_readLaw_70 : decode cX6_readLaw 70 = .ok (.iconst 0, 1) := by decide +kernel
theorem dX6_readLaw_71 : decode cX6_readLaw 71 = .ok (.ireturn, 1) := by decide +kernel
theorem dX6_readWalls_0 : decode cX6_readWalls 0 = .ok (.iconst 0, 1) := by decide +kernel
theorem dX6_readWalls_1 : decode cX6_readWalls 1 = .ok (.istore_n 2, 1) := by decide +kernel
theorem dX6_readWalls_2 : decode cX6_readWalls 2 = .ok (.iload_n 2, 1) := by decide +kernel
theorem dX6_readWalls_3 : decode cX6_readWalls 3 = .ok (.iconst 4, 1) := by decide +kernel
theorem dX6_readWalls_4 : decode cX6_readWalls 4 = .ok (.if_icmp .gt 32, 3) := by decide +kernel
theorem dX6_readWalls_7 : decode cX6_readWalls 7 = .ok (.iload_n 2, 1) := by decide +kernel
theorem dX6_readWalls_8 : decode cX6_readWalls 8 = .ok (.ifCond .eq 12, 3) := by decide +kernel
theorem dX6_readWalls_11 : decode cX6_readWalls 11 = .ok (.aload_n 0, 1) := by decide +kernel
theorem dX6_readWalls_12 : decode cX6_readWalls 12 = .ok (.invokevirtual 55, 3) := by decide +kernel
theorem dX6_readWalls_15 : decode cX6_readWalls 15 = .ok (.bipush 119, 2) := by decide +kernel
theorem dX6_readWalls_17 : decode cX6_readWalls 17 = .ok (.if_icmp .ne 19, 3) := by decide +kernel
theorem dX6_readWalls_20 : decode cX6_readWalls 20 = .ok (.aload_n 0, 1) := by decide +kernel
theorem dX6_readWalls_21 : decode cX6_readWalls 21 = .ok (.aload_n 1, 1) := by decide +kernel
theorem dX6_readWalls_22 : decode cX6_readWalls 22 = .ok (.invokevirtual 59, 3) := by decide +kernel
theorem dX6_readWalls_25 : decode cX6_readWalls 25 = .ok (.ifCond .ne 5, 3) := by decide +kernel
theorem dX6_readWalls_28 : decode cX6_readWalls 28 = .ok (.iconst 0, 1) := by decide +kernel
theorem dX6_readWalls_29 : decode cX6_readWalls 29 = .ok (.ireturn, 1) := by decide +kernel
theorem dX6_readWalls_30 : decode cX6_readWalls 30 = .ok (.iinc 2 1, 3) := by decide +kernel
theorem dX6_readWalls_33 : decode cX6_readWalls 33 = .ok (.goto (-31), 3) := by decide +kernel
theorem dX6_readWalls_36 : decode cX6_readWalls 36 = .ok (.iconst 1, 1) := by decide +kernel
theorem dX6_readWalls_37 : decode cX6_readWalls 37 = .ok (.ireturn, 1) := by decide +kernel
theorem dX6_readWall_0 : decode cX6_readWall 0 = .ok (.aload_n 0, 1) := by decide +kernel
theorem dX6_readWall_1 : decode cX6_readWall 1 = .ok (.invokevirtual 55, 3) := by decide +kernel
theorem dX6_readWall_4 : decode cX6_readWall 4 = .ok (.bipush 119, 2) := by decide +kernel
theorem dX6_readWall_6 : decode cX6_readWall 6 = .ok (.if_icmp .ne 21, 3) := by decide +kernel
theorem dX6_readWall_9 : decode cX6_readWall 9 = .ok (.aload_n 1, 1) := by decide +kernel
theorem dX6_readWall_10 : decode cX6_readWall 10 = .ok (.getfield 62, 3) := by decide +kernel
theorem dX6_readWall_13 : decode cX6_readWall 13 = .ok (.iconst 4, 1) := by decide +kernel
theorem dX6_readWall_14 : decode cX6_readWall 14 = .ok (.if_icmp .lt 13, 3) := by decide +kernel
theorem dX6_readWall_17 : decode cX6_readWall 17 = .ok (.aload_n 0, 1) := by decide +kernel
theorem dX6_readWall_18 : decode cX6_readWall 18 = .ok (.aload_n 0, 1) := by decide +kernel
theorem dX6_readWall_19 : decode cX6_readWall 19 = .ok (.getfield 19, 3) := by decide +kernel
theorem dX6_readWall_22 : decode cX6_readWall 22 = .ok (.iconst 3, 1) := by decide +kernel
theorem dX6_readWall_23 : decode cX6_readWall 23 = .ok (.invokevirtual 65, 3) := by decide +kernel
theorem dX6_readWall_26 : decode cX6_readWall 26 = .ok (.ireturn, 1) := by decide +kernel
theorem dX6_readWall_27 : decode cX6_readWall 27 = .ok (.aload_n 0, 1) := by decide +kernel
theorem dX6_readWall_28 : decode cX6_readWall 28 = .ok (.bipush 119, 2) := by decide +kernel
theorem dX6_readWall_30 : decode cX6_readWall 30 = .ok (.invokevirtual 41, 3) := by decide +kernel
theorem dX6_readWall_33 : decode cX6_readWall 33 = .ok (.ifCond .ne 5, 3) := by decide +kernel
theorem dX6_readWall_36 : decode cX6_readWall 36 = .ok (.iconst 0, 1) := by decide +kernel
theorem dX6_readWall_37 : decode cX6_readWall 37 = .ok (.ireturn, 1) := by decide +kernel
theorem dX6_readWall_38 : decode cX6_readWall 38 = .ok (.aload_n 0, 1) := by decide +kernel
theorem dX6_readWall_39 : decode cX6_readWall 39 = .ok (.iconst 0, 1) := by decide +kernel
theorem dX6_readWall_40 : decode cX6_readWall 40 = .ok (.bipush 9, 2) := by decide +kernel
theorem dX6_readWall_42 : decode cX6_readWall 42 = .ok (.invokevirtual 45, 3) := by decide +kernel
theorem dX6_readWall_45 : decode cX6_readWall 45 = .ok (.istore_n 2, 1) := by decide +kernel
theorem dX6_readWall_46 : decode cX6_readWall 46 = .ok (.iload_n 2, 1) := by decide +kernel
theorem dX6_readWall_47 : decode cX6_readWall 47 = .ok (.ifCond .lt 12, 3) := by decide +kernel
theorem dX6_readWall_50 : decode cX6_readWall 50 = .ok (.aload_n 0, 1) := by decide +kernel
theorem dX6_readWall_51 : decode cX6_readWall 51 = .ok (.bipush 44, 2) := by decide +kernel
theorem dX6_readWall_53 : decode cX6_readWall 53 = .ok (.invokevirtual 41, 3) := by decide +kernel
theorem dX6_readWall_56 : decode cX6_readWall 56 = .ok (.ifCond .ne 5, 3) := by decide +kernel
theorem dX6_readWall_59 : decode cX6_readWall 59 = .ok (.iconst 0, 1) := by decide +kernel
theorem dX6_readWall_60 : decode cX6_readWall 60 = .ok (.ireturn, 1) := by decide +kernel
theorem dX6_readWall_61 : decode cX6_readWall 61 = .ok (.aload_n 0, 1) := by decide +kernel
theorem dX6_readWall_62 : decode cX6_readWall 62 = .ok (.iconst 0, 1) := by decide +kernel
theorem dX6_readWall_63 : decode cX6_readWall 63 = .ok (.bipush 9, 2) := by decide +kernel
theorem dX6_readWall_65 : decode cX6_readWall 65 = .ok (.invokevirtual 45, 3) := by decide +kernel
theorem dX6_readWall_68 : decode cX6_readWall 68 = .ok (.istore_n 3, 1) := by decide +kernel
theorem dX6_readWall_69 : decode cX6_readWall 69 = .ok (.iload_n 3, 1) := by decide +kernel
theorem dX6_readWall_70 : decode cX6_readWall 70 = .ok (.ifCond .lt 12, 3) := by decide +kernel
theorem dX6_readWall_73 : decode cX6_readWall 73 = .ok (.aload_n 0, 1) := by decide +kernel
theorem dX6_readWall_74 : decode cX6_readWall 74 = .ok (.bipush 59, 2) := by decide +kernel
theorem dX6_readWall_76 : decode cX6_readWall 76 = .ok (.invokevirtual 41, 3) := by decide +kernel
theorem dX6_readWall_79 : decode cX6_readWall 79 = .ok (.ifCond .ne 5, 3) := by decide +kernel
theorem dX6_readWall_82 : decode cX6_readWall 82 = .ok (.iconst 0, 1) := by decide +kernel
theorem dX6_readWall_83 : decode cX6_readWall 83 = .ok (.ireturn, 1) := by decide +kernel
theorem dX6_readWall_84 : decode cX6_readWall 84 = .ok (.aload_n 1, 1) := by decide +kernel
theorem dX6_readWall_85 : decode cX6_readWall 85 = .ok (.iload_n 2, 1) := by decide +kernel
theorem dX6_readWall_86 : decode cX6_readWall 86 = .ok (.iload_n 3, 1) := by decide +kernel
theorem dX6_readWall_87 : decode cX6_readWall 87 = .ok (.invokevirtual 69, 3) := by decide +kernel
theorem dX6_readWall_90 : decode cX6_readWall 90 = .ok (.iconst 1, 1) := by decide +kernel
theorem dX6_readWall_91 : decode cX6_readWall 91 = .ok (.ireturn, 1) := by decide +kernel
theorem dX6_readPictures_0 : decode cX6_readPictures 0 = .ok (.iconst 0, 1) := by decide +kernel
theorem dX6_readPictures_1 : decode cX6_readPictures 1 = .ok (.istore_n 2, 1) := by decide +kernel
theorem dX6_readPictures_2 : decode cX6_readPictures 2 = .ok (.iload_n 2, 1) := by decide +kernel
theorem dX6_readPictures_3 : decode cX6_readPictures 3 = .ok (.iconst 5, 1) := by decide +kernel
theorem dX6_readPictures_4 : decode cX6_readPictures 4 = .ok (.if_icmp .gt 27, 3) := by decide +kernel
theorem dX6_readPictures_7 : decode cX6_readPictures 7 = .ok (.aload_n 0, 1) := by decide +kernel
theorem dX6_readPictures_8 : decode cX6_readPictures 8 = .ok (.invokevirtual 55, 3) := by decide +kernel
theorem dX6_readPictures_11 : decode cX6_readPictures 11 = .ok (.iconst (-1), 1) := by decide +kernel
theorem dX6_readPictures_12 : decode cX6_readPictures 12 = .ok (.if_icmp .eq 19, 3) := by decide +kernel
theorem dX6_readPictures_15 : decode cX6_readPictures 15 = .ok (.aload_n 0, 1) := by decide +kernel
theorem dX6_readPictures_16 : decode cX6_readPictures 16 = .ok (.aload_n 1, 1) := by decide +kernel
theorem dX6_readPictures_17 : decode cX6_readPictures 17 = .ok (.invokevirtual 73, 3) := by decide +kernel
theorem dX6_readPictures_20 : decode cX6_readPictures 20 = .ok (.ifCond .ne 5, 3) := by decide +kernel
theorem dX6_readPictures_23 : decode cX6_readPictures 23 = .ok (.iconst 0, 1) := by decide +kernel
theorem dX6_readPictures_24 : decode cX6_readPictures 24 = .ok (.ireturn, 1) := by decide +kernel
theorem dX6_readPictures_25 : decode cX6_readPictures 25 = .ok (.iinc 2 1, 3) := by decide +kernel
theorem dX6_readPictures_28 : decode cX6_readPictures 28 = .ok (.goto (-26), 3) := by decide +kernel
theorem dX6_readPictures_31 : decode cX6_readPictures 31 = .ok (.iconst 1, 1) := by decide +kernel
theorem dX6_readPictures_32 : decode cX6_readPictures 32 = .ok (.ireturn, 1) := by decide +kernel
theorem dX6_readPicture_0 : decode cX6_readPicture 0 = .ok (.aload_n 0, 1) := by decide +kernel
theorem dX6_readPicture_1 : decode cX6_readPicture 1 = .ok (.aload_n 0, 1) := by decide +kernel
theorem dX6_readPicture_2 : decode cX6_readPicture 2 = .ok (.invokevirtual 55, 3) := by decide +kernel
theorem dX6_readPicture_5 : decode cX6_readPicture 5 = .ok (.invokevirtual 76, 3) := by decide +kernel
theorem dX6_readPicture_8 : decode cX6_readPicture 8 = .ok (.istore_n 2, 1) := by decide +kernel
theorem dX6_readPicture_9 : decode cX6_readPicture 9 = .ok (.iload_n 2, 1) := by decide +kernel
theorem dX6_readPicture_10 : decode cX6_readPicture 10 = .ok (.ifCond .ne 13, 3) := by decide +kernel
theorem dX6_readPicture_13 : decode cX6_readPicture 13 = .ok (.aload_n 0, 1) := by decide +kernel
theorem dX6_readPicture_14 : decode cX6_readPicture 14 = .ok (.aload_n 0, 1) := by decide +kernel
theorem dX6_readPicture_15 : decode cX6_readPicture 15 = .ok (.getfield 19, 3) := by decide +kernel
theorem dX6_readPicture_18 : decode cX6_readPicture 18 = .ok (.iconst 1, 1) := by decide +kernel
theorem dX6_readPicture_19 : decode cX6_readPicture 19 = .ok (.invokevirtual 65, 3) := by decide +kernel
theorem dX6_readPicture_22 : decode cX6_readPicture 22 = .ok (.ireturn, 1) := by decide +kernel
theorem dX6_readPicture_23 : decode cX6_readPicture 23 = .ok (.aload_n 1, 1) := by decide +kernel
theorem dX6_readPicture_24 : decode cX6_readPicture 24 = .ok (.getfield 80, 3) := by decide +kernel
theorem dX6_readPicture_27 : decode cX6_readPicture 27 = .ok (.iconst 5, 1) := by decide +kernel
theorem dX6_readPicture_28 : decode cX6_readPicture 28 = .ok (.if_icmp .lt 13, 3) := by decide +kernel
theorem dX6_readPicture_31 : decode cX6_readPicture 31 = .ok (.aload_n 0, 1) := by decide +kernel
theorem dX6_readPicture_32 : decode cX6_readPicture 32 = .ok (.aload_n 0, 1) := by decide +kernel
theorem dX6_readPicture_33 : decode cX6_readPicture 33 = .ok (.getfield 19, 3) := by decide +kernel
theorem dX6_readPicture_36 : decode cX6_readPicture 36 = .ok (.iconst 3, 1) := by decide +kernel
theorem dX6_readPicture_37 : decode cX6_readPicture 37 = .ok (.invokevirtual 65, 3) := by decide +kernel
theorem dX6_readPicture_40 : decode cX6_readPicture 40 = .ok (.ireturn, 1) := by decide +kernel
theorem dX6_readPicture_41 : decode cX6_readPicture 41 = .ok (.aload_n 0, 1) := by decide +kernel
theorem dX6_readPicture_42 : decode cX6_readPicture 42 = .ok (.dup, 1) := by decide +kernel
theorem dX6_readPicture_43 : decode cX6_readPicture 43 = .ok (.getfield 19, 3) := by decide +kernel
theorem dX6_readPicture_46 : decode cX6_readPicture 46 = .ok (.iconst 1, 1) := by decide +kernel
theorem dX6_readPicture_47 : decode cX6_readPicture 47 = .ok (.iadd, 1) := by decide +kernel
theorem dX6_readPicture_48 : decode cX6_readPicture 48 = .ok (.putfield 19, 3) := by decide +kernel
theorem dX6_readPicture_51 : decode cX6_readPicture 51 = .ok (.aload_n 0, 1) := by decide +kernel
theorem dX6_readPicture_52 : decode cX6_readPicture 52 = .ok (.iconst 1, 1) := by decide +kernel
theorem dX6_readPicture_53 : decode cX6_readPicture 53 = .ok (.bipush 9, 2) := by decide +kernel
theorem dX6_readPicture_55 : decode cX6_readPicture 55 = .ok (.invokevirtual 45, 3) := by decide +kernel
theorem dX6_readPicture_58 : decode cX6_readPicture 58 = .ok (.istore_n 3, 1) := by decide +kernel
theorem dX6_readPicture_59 : decode cX6_readPicture 59 = .ok (.iload_n 3, 1) := by decide +kernel
theorem dX6_readPicture_60 : decode cX6_readPicture 60 = .ok (.ifCond .lt 12, 3) := by decide +kernel
theorem dX6_readPicture_63 : decode cX6_readPicture 63 = .ok (.aload_n 0, 1) := by decide +kernel
theorem dX6_readPicture_64 : decode cX6_readPicture 64 = .ok (.bipush 44, 2) := by decide +kernel
theorem dX6_readPicture_66 : decode cX6_readPicture 66 = .ok (.invokevirtual 41, 3) := by decide +kernel
theorem dX6_readPicture_69 : decode cX6_readPicture 69 = .ok (.ifCond .ne 5, 3) := by decide +kernel
theorem dX6_readPicture_72 : decode cX6_readPicture 72 = .ok (.iconst 0, 1) := by decide +kernel
theorem dX6_readPicture_73 : decode cX6_readPicture 73 = .ok (.ireturn, 1) := by decide +kernel
theorem dX6_readPicture_74 : decode cX6_readPicture 74 = .ok (.aload_n 0, 1) := by decide +kernel
theorem dX6_readPicture_75 : decode cX6_readPicture 75 = .ok (.iconst 1, 1) := by decide +kernel
theorem dX6_readPicture_76 : decode cX6_readPicture 76 = .ok (.bipush 60, 2) := by decide +kernel
theorem dX6_readPicture_78 : decode cX6_readPicture 78 = .ok (.invokevirtual 45, 3) := by decide +kernel
theorem dX6_readPicture_81 : decode cX6_readPicture 81 = .ok (.istore 4, 2) := by decide +kernel
theorem dX6_readPicture_83 : decode cX6_readPicture 83 = .ok (.iload 4, 2) := by decide +kernel
theorem dX6_readPicture_85 : decode cX6_readPicture 85 = .ok (.ifCond .lt 12, 3) := by decide +kernel
theorem dX6_readPicture_88 : decode cX6_readPicture 88 = .ok (.aload_n 0, 1) := by decide +kernel
theorem dX6_readPicture_89 : decode cX6_readPicture 89 = .ok (.bipush 44, 2) := by decide +kernel
theorem dX6_readPicture_91 : decode cX6_readPicture 91 = .ok (.invokevirtual 41, 3) := by decide +kernel
theorem dX6_readPicture_94 : decode cX6_readPicture 94 = .ok (.ifCond .ne 5, 3) := by decide +kernel
theorem dX6_readPicture_97 : decode cX6_readPicture 97 = .ok (.iconst 0, 1) := by decide +kernel
theorem dX6_readPicture_98 : decode cX6_readPicture 98 = .ok (.ireturn, 1) := by decide +kernel
theorem dX6_readPicture_99 : decode cX6_readPicture 99 = .ok (.aload_n 0, 1) := by decide +kernel
theorem dX6_readPicture_100 : decode cX6_readPicture 100 = .ok (.aload_n 1, 1) := by decide +kernel
theorem dX6_readPicture_101 : decode cX6_readPicture 101 = .ok (.invokevirtual 83, 3) := by decide +kernel
theorem dX6_readPicture_104 : decode cX6_readPicture 104 = .ok (.istore 5, 2) := by decide +kernel
theorem dX6_readPicture_106 : decode cX6_readPicture 106 = .ok (.iload 5, 2) := by decide +kernel
theorem dX6_readPicture_108 : decode cX6_readPicture 108 = .ok (.ifCond .lt 12, 3) := by decide +kernel
theorem dX6_readPicture_111 : decode cX6_readPicture 111 = .ok (.aload_n 0, 1) := by decide +kernel
theorem dX6_readPicture_112 : decode cX6_readPicture 112 = .ok (.bipush 59, 2) := by decide +kernel
theorem dX6_readPicture_114 : decode cX6_readPicture 114 = .ok (.invokevirtual 41, 3) := by decide +kernel
theorem dX6_readPicture_117 : decode cX6_readPicture 117 = .ok (.ifCond .ne 5, 3) := by decide +kernel
theorem dX6_readPicture_120 : decode cX6_readPicture 120 = .ok (.iconst 0, 1) := by decide +kernel
theorem dX6_readPicture_121 : decode cX6_readPicture 121 = .ok (.ireturn, 1) := by decide +kernel
theorem dX6_readPicture_122 : decode cX6_readPicture 122 = .ok (.aload_n 1, 1) := by decide +kernel
theorem dX6_readPicture_123 : decode cX6_readPicture 123 = .ok (.iload_n 2, 1) := by decide +kernel
theorem dX6_readPicture_124 : decode cX6_readPicture 124 = .ok (.iload_n 3, 1) := by decide +kernel
theorem dX6_readPicture_125 : decode cX6_readPicture 125 = .ok (.iload 4, 2) := by decide +kernel
theorem dX6_readPicture_127 : decode cX6_readPicture 127 = .ok (.iload 5, 2) := by decide +kernel
theorem dX6_readPicture_129 : decode cX6_readPicture 129 = .ok (.invokevirtual 87, 3) := by decide +kernel
theorem dX6_readPicture_132 : decode cX6_readPicture 132 = .ok (.iconst 1, 1) := by decide +kernel
theorem dX6_readPicture_133 : decode cX6_readPicture 133 = .ok (.ireturn, 1) := by decide +kernel
theorem dX6_kindOfSort_0 : decode cX6_kindOfSort 0 = .ok (.iload_n 1, 1) := by decide +kernel
theorem dX6_kindOfSort_1 : decode cX6_kindOfSort 1 = .ok (.lookupswitch 61 #[(99, 53), (111, 51), (112, 57), (115, 59), (117, 55)], 51) := by decide +kernel
theorem dX6_kindOfSort_52 : decode cX6_kindOfSort 52 = .ok (.iconst 1, 1) := by decide +kernel
theorem dX6_kindOfSort_53 : decode cX6_kindOfSort 53 = .ok (.ireturn, 1) := by decide +kernel
theorem dX6_kindOfSort_54 : decode cX6_kindOfSort 54 = .ok (.iconst 2, 1) := by decide +kernel
theorem dX6_kindOfSort_55 : decode cX6_kindOfSort 55 = .ok (.ireturn, 1) := by decide +kernel
theorem dX6_kindOfSort_56 : decode cX6_kindOfSort 56 = .ok (.iconst 3, 1) := by decide +kernel
theorem dX6_kindOfSort_57 : decode cX6_kindOfSort 57 = .ok (.ireturn, 1) := by decide +kernel
theorem dX6_kindOfSort_58 : decode cX6_kindOfSort 58 = .ok (.iconst 4, 1) := by decide +kernel
theorem dX6_kindOfSort_59 : decode cX6_kindOfSort 59 = .ok (.ireturn, 1) := by decide +kernel
theorem dX6_kindOfSort_60 : decode cX6_kindOfSort 60 = .ok (.iconst 5, 1) := by decide +kernel
theorem dX6_kindOfSort_61 : decode cX6_kindOfSort 61 = .ok (.ireturn, 1) := by decide +kernel
theorem dX6_kindOfSort_62 : decode cX6_kindOfSort 62 = .ok (.iconst 0, 1) := by decide +kernel
theorem dX6_kindOfSort_63 : decode cX6_kindOfSort 63 = .ok (.ireturn, 1) := by decide +kernel
theorem dX6_takeWall_0 : decode cX6_takeWall 0 = .ok (.aload_n 0, 1) := by decide +kernel
theorem dX6_takeWall_1 : decode cX6_takeWall 1 = .ok (.getfield 19, 3) := by decide +kernel
theorem dX6_takeWall_4 : decode cX6_takeWall 4 = .ok (.istore_n 2, 1) := by decide +kernel
theorem dX6_takeWall_5 : decode cX6_takeWall 5 = .ok (.aload_n 0, 1) := by decide +kernel
theorem dX6_takeWall_6 : decode cX6_takeWall 6 = .ok (.iconst 0, 1) := by decide +kernel
theorem dX6_takeWall_7 : decode cX6_takeWall 7 = .ok (.aload_n 1, 1) := by decide +kernel
theorem dX6_takeWall_8 : decode cX6_takeWall 8 = .ok (.getfield 62, 3) := by decide +kernel
theorem dX6_takeWall_11 : decode cX6_takeWall 11 = .ok (.iconst 1, 1) := by decide +kernel
theorem dX6_takeWall_12 : decode cX6_takeWall 12 = .ok (.isub, 1) := by decide +kernel
theorem dX6_takeWall_13 : decode cX6_takeWall 13 = .ok (.invokevirtual 45, 3) := by decide +kernel
theorem dX6_takeWall_16 : decode cX6_takeWall 16 = .ok (.istore_n 3, 1) := by decide +kernel
theorem dX6_takeWall_17 : decode cX6_takeWall 17 = .ok (.iload_n 3, 1) := by decide +kernel
theorem dX6_takeWall_18 : decode cX6_takeWall 18 = .ok (.ifCond .lt 20, 3) := by decide +kernel
theorem dX6_takeWall_21 : decode cX6_takeWall 21 = .ok (.aload_n 1, 1) := by decide +kernel
theorem dX6_takeWall_22 : decode cX6_takeWall 22 = .ok (.iload_n 3, 1) := by decide +kernel
theorem dX6_takeWall_23 : decode cX6_takeWall 23 = .ok (.invokevirtual 91, 3) := by decide +kernel
theorem dX6_takeWall_26 : decode cX6_takeWall 26 = .ok (.ifCond .ne 12, 3) := by decide +kernel
theorem dX6_takeWall_29 : decode cX6_takeWall 29 = .ok (.aload_n 0, 1) := by decide +kernel
theorem dX6_takeWall_30 : decode cX6_takeWall 30 = .ok (.iload_n 2, 1) := by decide +kernel
theorem dX6_takeWall_31 : decode cX6_takeWall 31 = .ok (.iconst 2, 1) := by decide +kernel
theorem dX6_takeWall_32 : decode cX6_takeWall 32 = .ok (.invokevirtual 65, 3) := by decide +kernel
theorem dX6_takeWall_35 : decode cX6_takeWall 35 = .ok (.pop, 1) := by decide +kernel
theorem dX6_takeWall_36 : decode cX6_takeWall 36 = .ok (.iconst (-1), 1) := by decide +kernel
theorem dX6_takeWall_37 : decode cX6_takeWall 37 = .ok (.ireturn, 1) := by decide +kernel
theorem dX6_takeWall_38 : decode cX6_takeWall 38 = .ok (.iload_n 3, 1) := by decide +kernel
theorem dX6_takeWall_39 : decode cX6_takeWall 39 = .ok (.ireturn, 1) := by decide +kernel
theorem dX6_takeNumber_0 : decode cX6_takeNumber 0 = .ok (.aload_n 0, 1) := by decide +kernel
theorem dX6_takeNumber_1 : decode cX6_takeNumber 1 = .ok (.getfield 19, 3) := by decide +kernel
theorem dX6_takeNumber_4 : decode cX6_takeNumber 4 = .ok (.istore_n 3, 1) := by decide +kernel
theorem dX6_takeNumber_5 : decode cX6_takeNumber 5 = .ok (.iconst 0, 1) := by decide +kernel
theorem dX6_takeNumber_6 : decode cX6_takeNumber 6 = .ok (.istore 4, 2) := by decide +kernel
theorem dX6_takeNumber_8 : decode cX6_takeNumber 8 = .ok (.aload_n 0, 1) := by decide +kernel
theorem dX6_takeNumber_9 : decode cX6_takeNumber 9 = .ok (.getfield 19, 3) := by decide +kernel
theorem dX6_takeNumber_12 : decode cX6_takeNumber 12 = .ok (.aload_n 0, 1) := by decide +kernel
theorem dX6_takeNumber_13 : decode cX6_takeNumber 13 = .ok (.getfield 15, 3) := by decide +kernel
theorem dX6_takeNumber_16 : decode cX6_takeNumber 16 = .ok (.if_icmp .ge 52, 3) := by decide +kernel
theorem dX6_takeNumber_19 : decode cX6_takeNumber 19 = .ok (.aload_n 0, 1) := by decide +kernel
theorem dX6_takeNumber_20 : decode cX6_takeNumber 20 = .ok (.getfield 19, 3) := by decide +kernel
theorem dX6_takeNumber_23 : decode cX6_takeNumber 23 = .ok (.iload_n 3, 1) := by decide +kernel
theorem dX6_takeNumber_24 : decode cX6_takeNumber 24 = .ok (.iconst 3, 1) := by decide +kernel
theorem dX6_takeNumber_25 : decode cX6_takeNumber 25 = .ok (.iadd, 1) := by decide +kernel
theorem dX6_takeNumber_26 : decode cX6_takeNumber 26 = .ok (.if_icmp .ge 42, 3) := by decide +kernel
theorem dX6_takeNumber_29 : decode cX6_takeNumber 29 = .ok (.aload_n 0, 1) := by decide +kernel
theorem dX6_takeNumber_30 : decode cX6_takeNumber 30 = .ok (.aload_n 0, 1) := by decide +kernel
theorem dX6_takeNumber_31 : decode cX6_takeNumber 31 = .ok (.invokevirtual 55, 3) := by decide +kernel
theorem dX6_takeNumber_34 : decode cX6_takeNumber 34 = .ok (.invokevirtual 94, 3) := by decide +kernel
theorem dX6_takeNumber_37 : decode cX6_takeNumber 37 = .ok (.ifCond .eq 31, 3) := by decide +kernel
theorem dX6_takeNumber_40 : decode cX6_takeNumber 40 = .ok (.iload 4, 2) := by decide +kernel
theorem dX6_takeNumber_42 : decode cX6_takeNumber 42 = .ok (.bipush 10, 2) := by decide +kernel
theorem dX6_takeNumber_44 : decode cX6_takeNumber 44 = .ok (.imul, 1) := by decide +kernel
theorem dX6_takeNumber_45 : decode cX6_takeNumber 45 = .ok (.aload_n 0, 1) := by decide +kernel
theorem dX6_takeNumber_46 : decode cX6_takeNumber 46 = .ok (.invokevirtual 55, 3) := by decide +kernel
theorem dX6_takeNumber_49 : decode cX6_takeNumber 49 = .ok (.iadd, 1) := by decide +kernel
theorem dX6_takeNumber_50 : decode cX6_takeNumber 50 = .ok (.bipush 48, 2) := by decide +kernel
theorem dX6_takeNumber_52 : decode cX6_takeNumber 52 = .ok (.isub, 1) := by decide +kernel
theorem dX6_takeNumber_53 : decode cX6_takeNumber 53 = .ok (.istore 4, 2) := by decide +kernel
theorem dX6_takeNumber_55 : decode cX6_takeNumber 55 = .ok (.aload_n 0, 1) := by decide +kernel
theorem dX6_takeNumber_56 : decode cX6_takeNumber 56 = .ok (.dup, 1) := by decide +kernel
theorem dX6_takeNumber_57 : decode cX6_takeNumber 57 = .ok (.getfield 19, 3) := by decide +kernel
theorem dX6_takeNumber_60 : decode cX6_takeNumber 60 = .ok (.iconst 1, 1) := by decide +kernel
theorem dX6_takeNumber_61 : decode cX6_takeNumber 61 = .ok (.iadd, 1) := by decide +kernel
theorem dX6_takeNumber_62 : decode cX6_takeNumber 62 = .ok (.putfield 19, 3) := by decide +kernel
theorem dX6_takeNumber_65 : decode cX6_takeNumber 65 = .ok (.goto (-57), 3) := by decide +kernel
theorem dX6_takeNumber_68 : decode cX6_takeNumber 68 = .ok (.aload_n 0, 1) := by decide +kernel
theorem dX6_takeNumber_69 : decode cX6_takeNumber 69 = .ok (.getfield 19, 3) := by decide +kernel
theorem dX6_takeNumber_72 : decode cX6_takeNumber 72 = .ok (.iload_n 3, 1) := by decide +kernel
theorem dX6_takeNumber_73 : decode cX6_takeNumber 73 = .ok (.isub, 1) := by decide +kernel
theorem dX6_takeNumber_74 : decode cX6_takeNumber 74 = .ok (.istore 5, 2) := by decide +kernel
theorem dX6_takeNumber_76 : decode cX6_takeNumber 76 = .ok (.iload 5, 2) := by decide +kernel
theorem dX6_takeNumber_78 : decode cX6_takeNumber 78 = .ok (.iconst 1, 1) := by decide +kernel
theorem dX6_takeNumber_79 : decode cX6_takeNumber 79 = .ok (.if_icmp .lt 9, 3) := by decide +kernel
theorem dX6_takeNumber_82 : decode cX6_takeNumber 82 = .ok (.iload 5, 2) := by decide +kernel
theorem dX6_takeNumber_84 : decode cX6_takeNumber 84 = .ok (.iconst 2, 1) := by decide +kernel
theorem dX6_takeNumber_85 : decode cX6_takeNumber 85 = .ok (.if_icmp .le 12, 3) := by decide +kernel
theorem dX6_takeNumber_88 : decode cX6_takeNumber 88 = .ok (.aload_n 0, 1) := by decide +kernel
theorem dX6_takeNumber_89 : decode cX6_takeNumber 89 = .ok (.iload_n 3, 1) := by decide +kernel
theorem dX6_takeNumber_90 : decode cX6_takeNumber 90 = .ok (.iconst 1, 1) := by decide +kernel
theorem dX6_takeNumber_91 : decode cX6_takeNumber 91 = .ok (.invokevirtual 65, 3) := by decide +kernel
theorem dX6_takeNumber_94 : decode cX6_takeNumber 94 = .ok (.pop, 1) := by decide +kernel
theorem dX6_takeNumber_95 : decode cX6_takeNumber 95 = .ok (.iconst (-1), 1) := by decide +kernel
theorem dX6_takeNumber_96 : decode cX6_takeNumber 96 = .ok (.ireturn, 1) := by decide +kernel
theorem dX6_takeNumber_97 : decode cX6_takeNumber 97 = .ok (.iload 4, 2) := by decide +kernel
theorem dX6_takeNumber_99 : decode cX6_takeNumber 99 = .ok (.iload_n 1, 1) := by decide +kernel
theorem dX6_takeNumber_100 : decode cX6_takeNumber 100 = .ok (.iload_n 2, 1) := by decide +kernel
theorem dX6_takeNumber_101 : decode cX6_takeNumber 101 = .ok (.invokestatic 97, 3) := by decide +kernel
theorem dX6_takeNumber_104 : decode cX6_takeNumber 104 = .ok (.ifCond .ne 12, 3) := by decide +kernel
theorem dX6_takeNumber_107 : decode cX6_takeNumber 107 = .ok (.aload_n 0, 1) := by decide +kernel
theorem dX6_takeNumber_108 : decode cX6_takeNumber 108 = .ok (.iload_n 3, 1) := by decide +kernel
theorem dX6_takeNumber_109 : decode cX6_takeNumber 109 = .ok (.iconst 2, 1) := by decide +kernel
theorem dX6_takeNumber_110 : decode cX6_takeNumber 110 = .ok (.invokevirtual 65, 3) := by decide +kernel
theorem dX6_takeNumber_113 : decode cX6_takeNumber 113 = .ok (.pop, 1) := by decide +kernel
theorem dX6_takeNumber_114 : decode cX6_takeNumber 114 = .ok (.iconst (-1), 1) := by decide +kernel
theorem dX6_takeNumber_115 : decode cX6_takeNumber 115 = .ok (.ireturn, 1) := by decide +kernel
theorem dX6_takeNumber_116 : decode cX6_takeNumber 116 = .ok (.iload 4, 2) := by decide +kernel
theorem dX6_takeNumber_118 : decode cX6_takeNumber 118 = .ok (.ireturn, 1) := by decide +kernel
theorem dX6_take_0 : decode cX6_take 0 = .ok (.aload_n 0, 1) := by decide +kernel
theorem dX6_take_1 : decode cX6_take 1 = .ok (.invokevirtual 55, 3) := by decide +kernel
theorem dX6_take_4 : decode cX6_take 4 = .ok (.iload_n 1, 1) := by decide +kernel
theorem dX6_take_5 : decode cX6_take 5 = .ok (.if_icmp .eq 13, 3) := by decide +kernel
theorem dX6_take_8 : decode cX6_take 8 = .ok (.aload_n 0, 1) := by decide +kernel
theorem dX6_take_9 : decode cX6_take 9 = .ok (.aload_n 0, 1) := by decide +kernel
theorem dX6_take_10 : decode cX6_take 10 = .ok (.getfield 19, 3) := by decide +kernel
theorem dX6_take_13 : decode cX6_take 13 = .ok (.iconst 1, 1) := by decide +kernel
theorem dX6_take_14 : decode cX6_take 14 = .ok (.invokevirtual 65, 3) := by decide +kernel
theorem dX6_take_17 : decode cX6_take 17 = .ok (.ireturn, 1) := by decide +kernel
theorem dX6_take_18 : decode cX6_take 18 = .ok (.aload_n 0, 1) := by decide +kernel
theorem dX6_take_19 : decode cX6_take 19 = .ok (.dup, 1) := by decide +kernel
theorem dX6_take_20 : decode cX6_take 20 = .ok (.getfield 19, 3) := by decide +kernel
theorem dX6_take_23 : decode cX6_take 23 = .ok (.iconst 1, 1) := by decide +kernel
theorem dX6_take_24 : decode cX6_take 24 = .ok (.iadd, 1) := by decide +kernel
theorem dX6_take_25 : decode cX6_take 25 = .ok (.putfield 19, 3) := by decide +kernel
theorem dX6_take_28 : decode cX6_take 28 = .ok (.iconst 1, 1) := by decide +kernel
theorem dX6_take_29 : decode cX6_take 29 = .ok (.ireturn, 1) := by decide +kernel
theorem dX6_next_0 : decode cX6_next 0 = .ok (.aload_n 0, 1) := by decide +kernel
theorem dX6_next_1 : decode cX6_next 1 = .ok (.getfield 19, 3) := by decide +kernel
theorem dX6_next_4 : decode cX6_next 4 = .ok (.ifCond .lt 35, 3) := by decide +kernel
theorem dX6_next_7 : decode cX6_next 7 = .ok (.aload_n 0, 1) := by decide +kernel
theorem dX6_next_8 : decode cX6_next 8 = .ok (.getfield 19, 3) := by decide +kernel
theorem dX6_next_11 : decode cX6_next 11 = .ok (.aload_n 0, 1) := by decide +kernel
theorem dX6_next_12 : decode cX6_next 12 = .ok (.getfield 15, 3) := by decide +kernel
theorem dX6_next_15 : decode cX6_next 15 = .ok (.if_icmp .ge 24, 3) := by decide +kernel
theorem dX6_next_18 : decode cX6_next 18 = .ok (.aload_n 0, 1) := by decide +kernel
theorem dX6_next_19 : decode cX6_next 19 = .ok (.getfield 19, 3) := by decide +kernel
theorem dX6_next_22 : decode cX6_next 22 = .ok (.bipush 100, 2) := by decide +kernel
theorem dX6_next_24 : decode cX6_next 24 = .ok (.if_icmp .ge 15, 3) := by decide +kernel
theorem dX6_next_27 : decode cX6_next 27 = .ok (.aload_n 0, 1) := by decide +kernel
theorem dX6_next_28 : decode cX6_next 28 = .ok (.getfield 11, 3) := by decide +kernel
theorem dX6_next_31 : decode cX6_next 31 = .ok (.aload_n 0, 1) := by decide +kernel
theorem dX6_next_32 : decode cX6_next 32 = .ok (.getfield 19, 3) := by decide +kernel
theorem dX6_next_35 : decode cX6_next 35 = .ok (.iaload, 1) := by decide +kernel
theorem dX6_next_36 : decode cX6_next 36 = .ok (.goto 4, 3) := by decide +kernel
theorem dX6_next_39 : decode cX6_next 39 = .ok (.iconst (-1), 1) := by decide +kernel
theorem dX6_next_40 : decode cX6_next 40 = .ok (.ireturn, 1) := by decide +kernel
theorem dX6_isFigure_0 : decode cX6_isFigure 0 = .ok (.iload_n 1, 1) := by decide +kernel
theorem dX6_isFigure_1 : decode cX6_isFigure 1 = .ok (.bipush 48, 2) := by decide +kernel
theorem dX6_isFigure_3 : decode cX6_isFigure 3 = .ok (.if_icmp .lt 13, 3) := by decide +kernel
theorem dX6_isFigure_6 : decode cX6_isFigure 6 = .ok (.iload_n 1, 1) := by decide +kernel
theorem dX6_isFigure_7 : decode cX6_isFigure 7 = .ok (.bipush 57, 2) := by decide +kernel
theorem dX6_isFigure_9 : decode cX6_isFigure 9 = .ok (.if_icmp .gt 7, 3) := by decide +kernel
theorem dX6_isFigure_12 : decode cX6_isFigure 12 = .ok (.iconst 1, 1) := by decide +kernel
theorem dX6_isFigure_13 : decode cX6_isFigure 13 = .ok (.goto 4, 3) := by decide +kernel
theorem dX6_isFigure_16 : decode cX6_isFigure 16 = .ok (.iconst 0, 1) := by decide +kernel
theorem dX6_isFigure_17 : decode cX6_isFigure 17 = .ok (.ireturn, 1) := by decide +kernel
theorem dX6_failAt_0 : decode cX6_failAt 0 = .ok (.aload_n 0, 1) := by decide +kernel
theorem dX6_failAt_1 : decode cX6_failAt 1 = .ok (.iload_n 1, 1) := by decide +kernel
theorem dX6_failAt_2 : decode cX6_failAt 2 = .ok (.putfield 101, 3) := by decide +kernel
theorem dX6_failAt_5 : decode cX6_failAt 5 = .ok (.aload_n 0, 1) := by decide +kernel
theorem dX6_failAt_6 : decode cX6_failAt 6 = .ok (.iload_n 2, 1) := by decide +kernel
theorem dX6_failAt_7 : decode cX6_failAt 7 = .ok (.putfield 104, 3) := by decide +kernel
theorem dX6_failAt_10 : decode cX6_failAt 10 = .ok (.iconst 0, 1) := by decide +kernel
theorem dX6_failAt_11 : decode cX6_failAt 11 = .ok (.ireturn, 1) := by decide +kernel
theorem dX7_init_0 : decode cX7_init 0 = .ok (.aload_n 0, 1) := by decide +kernel
theorem dX7_init_1 : decode cX7_init 1 = .ok (.invokespecial 1, 3) := by decide +kernel
theorem dX7_init_4 : decode cX7_init 4 = .ok (.aload_n 0, 1) := by decide +kernel
theorem dX7_init_5 : decode cX7_init 5 = .ok (.new 7, 3) := by decide +kernel
theorem dX7_init_8 : decode cX7_init 8 = .ok (.dup, 1) := by decide +kernel
theorem dX7_init_9 : decode cX7_init 9 = .ok (.invokespecial 9, 3) := by decide +kernel
theorem dX7_init_12 : decode cX7_init 12 = .ok (.putfield 10, 3) := by decide +kernel
theorem dX7_init_15 : decode cX7_init 15 = .ok (.aload_n 0, 1) := by decide +kernel
theorem dX7_init_16 : decode cX7_init 16 = .ok (.new 16, 3) := by decide +kernel
theorem dX7_init_19 : decode cX7_init 19 = .ok (.dup, 1) := by decide +kernel
theorem dX7_init_20 : decode cX7_init 20 = .ok (.invokespecial 18, 3) := by decide +kernel
theorem dX7_init_23 : decode cX7_init 23 = .ok (.putfield 19, 3) := by decide +kernel
theorem dX7_init_26 : decode cX7_init 26 = .ok (.aload_n 0, 1) := by decide +kernel
theorem dX7_init_27 : decode cX7_init 27 = .ok (.new 23, 3) := by decide +kernel
theorem dX7_init_30 : decode cX7_init 30 = .ok (.dup, 1) := by decide +kernel
theorem dX7_init_31 : decode cX7_init 31 = .ok (.invokespecial 25, 3) := by decide +kernel
theorem dX7_init_34 : decode cX7_init 34 = .ok (.putfield 26, 3) := by decide +kernel
theorem dX7_init_37 : decode cX7_init 37 = .ok (.aload_n 0, 1) := by decide +kernel
theorem dX7_init_38 : decode cX7_init 38 = .ok (.new 23, 3) := by decide +kernel
theorem dX7_init_41 : decode cX7_init 41 = .ok (.dup, 1) := by decide +kernel
theorem dX7_init_42 : decode cX7_init 42 = .ok (.invokespecial 25, 3) := by decide +kernel
theorem dX7_init_45 : decode cX7_init 45 = .ok (.putfield 30, 3) := by decide +kernel
theorem dX7_init_48 : decode cX7_init 48 = .ok (.aload_n 0, 1) := by decide +kernel
theorem dX7_init_49 : decode cX7_init 49 = .ok (.new 23, 3) := by decide +kernel
theorem dX7_init_52 : decode cX7_init 52 = .ok (.dup, 1) := by decide +kernel
theorem dX7_init_53 : decode cX7_init 53 = .ok (.invokespecial 25, 3) := by decide +kernel
theorem dX7_init_56 : decode cX7_init 56 = .ok (.putfield 33, 3) := by decide +kernel
theorem dX7_init_59 : decode cX7_init 59 = .ok (.aload_n 0, 1) := by decide +kernel
theorem dX7_init_60 : decode cX7_init 60 = .ok (.new 23, 3) := by decide +kernel
theorem dX7_init_63 : decode cX7_init 63 = .ok (.dup, 1) := by decide +kernel
theorem dX7_init_64 : decode cX7_init 64 = .ok (.invokespecial 25, 3) := by decide +kernel
theorem dX7_init_67 : decode cX7_init 67 = .ok (.putfield 36, 3) := by decide +kernel
theorem dX7_init_70 : decode cX7_init 70 = .ok (.aload_n 0, 1) := by decide +kernel
theorem dX7_init_71 : decode cX7_init 71 = .ok (.new 39, 3) := by decide +kernel
theorem dX7_init_74 : decode cX7_init 74 = .ok (.dup, 1) := by decide +kernel
theorem dX7_init_75 : decode cX7_init 75 = .ok (.invokespecial 41, 3) := by decide +kernel
theorem dX7_init_78 : decode cX7_init 78 = .ok (.putfield 42, 3) := by decide +kernel
theorem dX7_init_81 : decode cX7_init 81 = .ok (.aload_n 0, 1) := by decide +kernel
theorem dX7_init_82 : decode cX7_init 82 = .ok (.new 46, 3) := by decide +kernel
theorem dX7_init_85 : decode cX7_init 85 = .ok (.dup, 1) := by decide +kernel
theorem dX7_init_86 : decode cX7_init 86 = .ok (.invokespecial 48, 3) := by decide +kernel
theorem dX7_init_89 : decode cX7_init 89 = .ok (.putfield 49, 3) := by decide +kernel
theorem dX7_init_92 : decode cX7_init 92 = .ok (.aload_n 0, 1) := by decide +kernel
theorem dX7_init_93 : decode cX7_init 93 = .ok (.new 53, 3) := by decide +kernel
theorem dX7_init_96 : decode cX7_init 96 = .ok (.dup, 1) := by decide +kernel
theorem dX7_init_97 : decode cX7_init 97 = .ok (.invokespecial 55, 3) := by decide +kernel
theorem dX7_init_100 : decode cX7_init 100 = .ok (.putfield 56, 3) := by decide +kernel
theorem dX7_init_103 : decode cX7_init 103 = .ok (.return_, 1) := by decide +kernel
theorem dX7_row_0 : decode cX7_row 0 = .ok (.aload_n 0, 1) := by decide +kernel
theorem dX7_row_1 : decode cX7_row 1 = .ok (.getfield 10, 3) := by decide +kernel
theorem dX7_row_4 : decode cX7_row 4 = .ok (.iload_n 1, 1) := by decide +kernel
theorem dX7_row_5 : decode cX7_row 5 = .ok (.invokevirtual 60, 3) := by decide +kernel
theorem dX7_row_8 : decode cX7_row 8 = .ok (.ifCond .eq 20, 3) := by decide +kernel
theorem dX7_row_11 : decode cX7_row 11 = .ok (.aload_n 0, 1) := by decide +kernel
theorem dX7_row_12 : decode cX7_row 12 = .ok (.getfield 10, 3) := by decide +kernel
theorem dX7_row_15 : decode cX7_row 15 = .ok (.iload_n 2, 1) := by decide +kernel
theorem dX7_row_16 : decode cX7_row 16 = .ok (.invokevirtual 64, 3) := by decide +kernel
theorem dX7_row_19 : decode cX7_row 19 = .ok (.ifCond .eq 9, 3) := by decide +kernel
theorem dX7_row_22 : decode cX7_row 22 = .ok (.iload_n 3, 1) := by decide +kernel
theorem dX7_row_23 : decode cX7_row 23 = .ok (.bipush 40, 2) := by decide +kernel
theorem dX7_row_25 : decode cX7_row 25 = .ok (.if_icmp .le 6, 3) := by decide +kernel
theorem dX7_row_28 : decode cX7_row 28 = .ok (.ldc 67, 2) := by decide +kernel
theorem dX7_row_30 : decode cX7_row 30 = .ok (.ireturn, 1) := by decide +kernel
theorem dX7_row_31 : decode cX7_row 31 = .ok (.iload_n 3, 1) := by decide +kernel
theorem dX7_row_32 : decode cX7_row 32 = .ok (.ifCond .ge 9, 3) := by decide +kernel
theorem dX7_row_35 : decode cX7_row 35 = .ok (.aload_n 0, 1) := by decide +kernel
theorem dX7_row_36 : decode cX7_row 36 = .ok (.iconst 4, 1) := by decide +kernel
theorem dX7_row_37 : decode cX7_row 37 = .ok (.invokevirtual 68, 3) := by decide +kernel
theorem dX7_row_40 : decode cX7_row 40 = .ok (.ireturn, 1) := by decide +kernel
theorem dX7_row_41 : decode cX7_row 41 = .ok (.aload_n 0, 1) := by decide +kernel
theorem dX7_row_42 : decode cX7_row 42 = .ok (.getfield 10, 3) := by decide +kernel
theorem dX7_row_45 : decode cX7_row 45 = .ok (.iload_n 1, 1) := by decide +kernel
theorem dX7_row_46 : decode cX7_row 46 = .ok (.iload_n 2, 1) := by decide +kernel
theorem dX7_row_47 : decode cX7_row 47 = .ok (.iload_n 3, 1) := by decide +kernel
theorem dX7_row_48 : decode cX7_row 48 = .ok (.invokevirtual 72, 3) := by decide +kernel
theorem dX7_row_51 : decode cX7_row 51 = .ok (.aload_n 0, 1) := by decide +kernel
theorem dX7_row_52 : decode cX7_row 52 = .ok (.iload_n 3, 1) := by decide +kernel
theorem dX7_row_53 : decode cX7_row 53 = .ok (.invokevirtual 76, 3) := by decide +kernel
theorem dX7_row_56 : decode cX7_row 56 = .ok (.ireturn, 1) := by decide +kernel
theorem dX7_set_0 : decode cX7_set 0 = .ok (.aload_n 0, 1) := by decide +kernel
theorem dX7_set_1 : decode cX7_set 1 = .ok (.getfield 10, 3) := by decide +kernel
theorem dX7_set_4 : decode cX7_set 4 = .ok (.iload_n 1, 1) := by decide +kernel
theorem dX7_set_5 : decode cX7_set 5 = .ok (.invokevirtual 60, 3) := by decide +kernel
theorem dX7_set_8 : decode cX7_set 8 = .ok (.ifCond .ne 6, 3) := by decide +kernel
theorem dX7_set_11 : decode cX7_set 11 = .ok (.ldc 67, 2) := by decide +kernel
theorem dX7_set_13 : decode cX7_set 13 = .ok (.ireturn, 1) := by decide +kernel
theorem dX7_set_14 : decode cX7_set 14 = .ok (.aload_n 0, 1) := by decide +kernel
theorem dX7_set_15 : decode cX7_set 15 = .ok (.getfield 10, 3) := by decide +kernel
theorem dX7_set_18 : decode cX7_set 18 = .ok (.iload_n 1, 1) := by decide +kernel
theorem dX7_set_19 : decode cX7_set 19 = .ok (.invokevirtual 79, 3) := by decide +kernel
theorem dX7_set_22 : decode cX7_set 22 = .ok (.ifCond .eq 9, 3) := by decide +kernel
theorem dX7_set_25 : decode cX7_set 25 = .ok (.aload_n 0, 1) := by decide +kernel
theorem dX7_set_26 : decode cX7_set 26 = .ok (.iconst 1, 1) := by decide +kernel
theorem dX7_set_27 : decode cX7_set 27 = .ok (.invokevirtual 68, 3) := by decide +kernel
theorem dX7_set_30 : decode cX7_set 30 = .ok (.ireturn, 1) := by decide +kernel
theorem dX7_set_31 : decode cX7_set 31 = .ok (.aload_n 0, 1) := by decide +kernel
theorem dX7_set_32 : decode cX7_set 32 = .ok (.getfield 10, 3) := by decide +kernel
theorem dX7_set_35 : decode cX7_set 35 = .ok (.iload_n 1, 1) := by decide +kernel
theorem dX7_set_36 : decode cX7_set 36 = .ok (.iload_n 2, 1) := by decide +kernel
theorem dX7_set_37 : decode cX7_set 37 = .ok (.iconst 1, 1) := by decide +kernel
theorem dX7_set_38 : decode cX7_set 38 = .ok (.invokevirtual 82, 3) := by decide +kernel
theorem dX7_set_41 : decode cX7_set 41 = .ok (.ifCond .ne 9, 3) := by decide +kernel
theorem dX7_set_44 : decode cX7_set 44 = .ok (.aload_n 0, 1) := by decide +kernel
theorem dX7_set_45 : decode cX7_set 45 = .ok (.iconst 2, 1) := by decide +kernel
theorem dX7_set_46 : decode cX7_set 46 = .ok (.invokevirtual 68, 3) := by decide +kernel
theorem dX7_set_49 : decode cX7_set 49 = .ok (.ireturn, 1) := by decide +kernel
theorem dX7_set_50 : decode cX7_set 50 = .ok (.aload_n 0, 1) := by decide +kernel
theorem dX7_set_51 : decode cX7_set 51 = .ok (.aload_n 0, 1) := by decide +kernel
theorem dX7_set_52 : decode cX7_set 52 = .ok (.getfield 10, 3) := by decide +kernel
theorem dX7_set_55 : decode cX7_set 55 = .ok (.iload_n 1, 1) := by decide +kernel
theorem dX7_set_56 : decode cX7_set 56 = .ok (.iload_n 2, 1) := by decide +kernel
theorem dX7_set_57 : decode cX7_set 57 = .ok (.iload_n 3, 1) := by decide +kernel
theorem dX7_set_58 : decode cX7_set 58 = .ok (.invokevirtual 86, 3) := by decide +kernel
theorem dX7_set_61 : decode cX7_set 61 = .ok (.invokevirtual 76, 3) := by decide +kernel
theorem dX7_set_64 : decode cX7_set 64 = .ok (.ireturn, 1) := by decide +kernel
theorem dX7_copy_0 : decode cX7_copy 0 = .ok (.aload_n 0, 1) := by decide +kernel
theorem dX7_copy_1 : decode cX7_copy 1 = .ok (.getfield 10, 3) := by decide +kernel
theorem dX7_copy_4 : decode cX7_copy 4 = .ok (.iload_n 1, 1) := by decide +kernel
theorem dX7_copy_5 : decode cX7_copy 5 = .ok (.invokevirtual 60, 3) := by decide +kernel
theorem dX7_copy_8 : decode cX7_copy 8 = .ok (.ifCond .eq 14, 3) := by decide +kernel
theorem dX7_copy_11 : decode cX7_copy 11 = .ok (.aload_n 0, 1) := by decide +kernel
theorem dX7_copy_12 : decode cX7_copy 12 = .ok (.getfield 10, 3) := by decide +kernel
theorem dX7_copy_15 : decode cX7_copy 15 = .ok (.iload_n 3, 1) := by decide +kernel
theorem dX7_copy_16 : decode cX7_copy 16 = .ok (.invokevirtual 60, 3) := by decide +kernel
theorem dX7_copy_19 : decode cX7_copy 19 = .ok (.ifCond .ne 6, 3) := by decide +kernel
theorem dX7_copy_22 : decode cX7_copy 22 = .ok (.ldc 67, 2) := by decide +kernel
theorem dX7_copy_24 : decode cX7_copy 24 = .ok (.ireturn, 1) := by decide +kernel
theorem dX7_copy_25 : decode cX7_copy 25 = .ok (.aload_n 0, 1) := by decide +kernel
theorem dX7_copy_26 : decode cX7_copy 26 = .ok (.getfield 10, 3) := by decide +kernel
theorem dX7_copy_29 : decode cX7_copy 29 = .ok (.iload_n 1, 1) := by decide +kernel
theorem dX7_copy_30 : decode cX7_copy 30 = .ok (.invokevirtual 79, 3) := by decide +kernel
theorem dX7_copy_33 : decode cX7_copy 33 = .ok (.ifCond .ne 14, 3) := by decide +kernel
theorem dX7_copy_36 : decode cX7_copy 36 = .ok (.aload_n 0, 1) := by decide +kernel
theorem dX7_copy_37 : decode cX7_copy 37 = .ok (.getfield 10, 3) := by decide +kernel
theorem dX7_copy_40 : decode cX7_copy 40 = .ok (.iload_n 3, 1) := by decide +kernel
theorem dX7_copy_41 : decode cX7_copy 41 = .ok (.invokevirtual 79, 3) := by decide +kernel
theorem dX7_copy_44 : decode cX7_copy 44 = .ok (.ifCond .eq 9, 3) := by decide +kernel
theorem dX7_copy_47 : decode cX7_copy 47 = .ok (.aload_n 0, 1) := by decide +kernel
theorem dX7_copy_48 : decode cX7_copy 48 = .ok (.iconst 1, 1) := by decide +kernel
theorem dX7_copy_49 : decode cX7_copy 49 = .ok (.invokevirtual 68, 3) := by decide +kernel
theorem dX7_copy_52 : decode cX7_copy 52 = .ok (.ireturn, 1) := by decide +kernel
theorem dX7_copy_53 : decode cX7_copy 53 = .ok (.aload_n 0, 1) := by decide +kernel
theorem dX7_copy_54 : decode cX7_copy 54 = .ok (.getfield 10, 3) := by decide +kernel
theorem dX7_copy_57 : decode cX7_copy 57 = .ok (.iload_n 1, 1) := by decide +kernel
theorem dX7_copy_58 : decode cX7_copy 58 = .ok (.iload_n 3, 1) := by decide +kernel
theorem dX7_copy_59 : decode cX7_copy 59 = .ok (.invokevirtual 90, 3) := by decide +kernel
theorem dX7_copy_62 : decode cX7_copy 62 = .ok (.ifCond .ne 9, 3) := by decide +kernel
theorem dX7_copy_65 : decode cX7_copy 65 = .ok (.aload_n 0, 1) := by decide +kernel
theorem dX7_copy_66 : decode cX7_copy 66 = .ok (.iconst 5, 1) := by decide +kernel
theorem dX7_copy_67 : decode cX7_copy 67 = .ok (.invokevirtual 68, 3) := by decide +kernel
theorem dX7_copy_70 : decode cX7_copy 70 = .ok (.ireturn, 1) := by decide +kernel
theorem dX7_copy_71 : decode cX7_copy 71 = .ok (.aload_n 0, 1) := by decide +kernel
theorem dX7_copy_72 : decode cX7_copy 72 = .ok (.getfield 10, 3) := by decide +kernel
theorem dX7_copy_75 : decode cX7_copy 75 = .ok (.iload_n 1, 1) := by decide +kernel
theorem dX7_copy_76 : decode cX7_copy 76 = .ok (.iload_n 2, 1) := by decide +kernel
theorem dX7_copy_77 : decode cX7_copy 77 = .ok (.iload 5, 2) := by decide +kernel
theorem dX7_copy_79 : decode cX7_copy 79 = .ok (.invokevirtual 82, 3) := by decide +kernel
theorem dX7_copy_82 : decode cX7_copy 82 = .ok (.ifCond .eq 18, 3) := by decide +kernel
theorem dX7_copy_85 : decode cX7_copy 85 = .ok (.aload_n 0, 1) := by decide +kernel
theorem dX7_copy_86 : decode cX7_copy 86 = .ok (.getfield 10, 3) := by decide +kernel
theorem dX7_copy_89 : decode cX7_copy 89 = .ok (.iload_n 3, 1) := by decide +kernel
theorem dX7_copy_90 : decode cX7_copy 90 = .ok (.iload 4, 2) := by decide +kernel
theorem dX7_copy_92 : decode cX7_copy 92 = .ok (.iload 5, 2) := by decide +kernel
theorem dX7_copy_94 : decode cX7_copy 94 = .ok (.invokevirtual 82, 3) := by decide +kernel
theorem dX7_copy_97 : decode cX7_copy 97 = .ok (.ifCond .ne 9, 3) := by decide +kernel
theorem dX7_copy_100 : decode cX7_copy 100 = .ok (.aload_n 0, 1) := by decide +kernel
theorem dX7_copy_101 : decode cX7_copy 101 = .ok (.iconst 2, 1) := by decide +kernel
theorem dX7_copy_102 : decode cX7_copy 102 = .ok (.invokevirtual 68, 3) := by decide +kernel
theorem dX7_copy_105 : decode cX7_copy 105 = .ok (.ireturn, 1) := by decide +kernel
theorem dX7_copy_106 : decode cX7_copy 106 = .ok (.aload_n 0, 1) := by decide +kernel
theorem dX7_copy_107 : decode cX7_copy 107 = .ok (.getfield 10, 3) := by decide +kernel
theorem dX7_copy_110 : decode cX7_copy 110 = .ok (.iload_n 1, 1) := by decide +kernel
theorem dX7_copy_111 : decode cX7_copy 111 = .ok (.iload_n 2, 1) := by decide +kernel
theorem dX7_copy_112 : decode cX7_copy 112 = .ok (.iload_n 3, 1) := by decide +kernel
theorem dX7_copy_113 : decode cX7_copy 113 = .ok (.iload 4, 2) := by decide +kernel
theorem dX7_copy_115 : decode cX7_copy 115 = .ok (.iload 5, 2) := by decide +kernel
theorem dX7_copy_117 : decode cX7_copy 117 = .ok (.invokevirtual 94, 3) := by decide +kernel
theorem dX7_copy_120 : decode cX7_copy 120 = .ok (.aload_n 0, 1) := by decide +kernel
theorem dX7_copy_121 : decode cX7_copy 121 = .ok (.iload 5, 2) := by decide +kernel
theorem dX7_copy_123 : decode cX7_copy 123 = .ok (.invokevirtual 76, 3) := by decide +kernel
theorem dX7_copy_126 : decode cX7_copy 126 = .ok (.ireturn, 1) := by decide +kernel
theorem dX7_drop_0 : decode cX7_drop 0 = .ok (.aload_n 0, 1) := by decide +kernel
theorem dX7_drop_1 : decode cX7_drop 1 = .ok (.getfield 10, 3) := by decide +kernel
theorem dX7_drop_4 : decode cX7_drop 4 = .ok (.iload_n 1, 1) := by decide +kernel
theorem dX7_drop_5 : decode cX7_drop 5 = .ok (.invokevirtual 60, 3) := by decide +kernel
theorem dX7_drop_8 : decode cX7_drop 8 = .ok (.ifCond .ne 6, 3) := by decide +kernel
theorem dX7_drop_11 : decode cX7_drop 11 = .ok (.ldc 67, 2) := by decide +kernel
theorem dX7_drop_13 : decode cX7_drop 13 = .ok (.ireturn, 1) := by decide +kernel
theorem dX7_drop_14 : decode cX7_drop 14 = .ok (.aload_n 0, 1) := by decide +kernel
theorem dX7_drop_15 : decode cX7_drop 15 = .ok (.getfield 10, 3) := by decide +kernel
theorem dX7_drop_18 : decode cX7_drop 18 = .ok (.iload_n 1, 1) := by decide +kernel
theorem dX7_drop_19 : decode cX7_drop 19 = .ok (.invokevirtual 79, 3) := by decide +kernel
theorem dX7_drop_22 : decode cX7_drop 22 = .ok (.ifCond .eq 9, 3) := by decide +kernel
theorem dX7_drop_25 : decode cX7_drop 25 = .ok (.aload_n 0, 1) := by decide +kernel
theorem dX7_drop_26 : decode cX7_drop 26 = .ok (.iconst 1, 1) := by decide +kernel
theorem dX7_drop_27 : decode cX7_drop 27 = .ok (.invokevirtual 68, 3) := by decide +kernel
theorem dX7_drop_30 : decode cX7_drop 30 = .ok (.ireturn, 1) := by decide +kernel
theorem dX7_drop_31 : decode cX7_drop 31 = .ok (.aload_n 0, 1) := by decide +kernel
theorem dX7_drop_32 : decode cX7_drop 32 = .ok (.aload_n 0, 1) := by decide +kernel
theorem dX7_drop_33 : decode cX7_drop 33 = .ok (.getfield 10, 3) := by decide +kernel
theorem dX7_drop_36 : decode cX7_drop 36 = .ok (.iload_n 1, 1) := by decide +kernel
theorem dX7_drop_37 : decode cX7_drop 37 = .ok (.invokevirtual 98, 3) := by decide +kernel
theorem dX7_drop_40 : decode cX7_drop 40 = .ok (.invokevirtual 76, 3) := by decide +kernel
theorem dX7_drop_43 : decode cX7_drop 43 = .ok (.ireturn, 1) := by decide +kernel
theorem dX7_feed_0 : decode cX7_feed 0 = .ok (.iload_n 1, 1) := by decide +kernel
theorem dX7_feed_1 : decode cX7_feed 1 = .ok (.iconst 0, 1) := by decide +kernel
theorem dX7_feed_2 : decode cX7_feed 2 = .ok (.sipush 255, 3) := by decide +kernel
theorem dX7_feed_5 : decode cX7_feed 5 = .ok (.invokestatic 101, 3) := by decide +kernel
theorem dX7_feed_8 : decode cX7_feed 8 = .ok (.ifCond .ne 6, 3) := by decide +kernel
theorem dX7_feed_11 : decode cX7_feed 11 = .ok (.ldc 67, 2) := by decide +kernel
theorem dX7_feed_13 : decode cX7_feed 13 = .ok (.ireturn, 1) := by decide +kernel
theorem dX7_feed_14 : decode cX7_feed 14 = .ok (.aload_n 0, 1) := by decide +kernel
theorem dX7_feed_15 : decode cX7_feed 15 = .ok (.getfield 19, 3) := by decide +kernel
theorem dX7_feed_18 : decode cX7_feed 18 = .ok (.iload_n 1, 1) := by decide +kernel
theorem dX7_feed_19 : decode cX7_feed 19 = .ok (.invokevirtual 104, 3) := by decide +kernel
theorem dX7_feed_22 : decode cX7_feed 22 = .ok (.ifCond .eq 13, 3) := by decide +kernel
theorem dX7_feed_25 : decode cX7_feed 25 = .ok (.aload_n 0, 1) := by decide +kernel
theorem dX7_feed_26 : decode cX7_feed 26 = .ok (.getfield 19, 3) := by decide +kernel
theorem dX7_feed_29 : decode cX7_feed 29 = .ok (.getfield 107, 3) := by decide +kernel
theorem dX7_feed_32 : decode cX7_feed 32 = .ok (.goto 5, 3) := by decide +kernel
theorem dX7_feed_35 : decode cX7_feed 35 = .ok (.ldc 111, 2) := by decide +kernel
theorem dX7_feed_37 : decode cX7_feed 37 = .ok (.ireturn, 1) := by decide +kernel
theorem dX7_house_0 : decode cX7_house 0 = .ok (.aload_n 0, 1) := by decide +kernel
theorem dX7_house_1 : decode cX7_house 1 = .ok (.getfield 19, 3) := by decide +kernel
theorem dX7_house_4 : decode cX7_house 4 = .ok (.aload_n 0, 1) := by decide +kernel
theorem dX7_house_5 : decode cX7_house 5 = .ok (.getfield 30, 3) := by decide +kernel
theorem dX7_house_8 : decode cX7_house 8 = .ok (.invokevirtual 112, 3) := by decide +kernel
theorem dX7_house_11 : decode cX7_house 11 = .ok (.istore_n 1, 1) := by decide +kernel
theorem dX7_house_12 : decode cX7_house 12 = .ok (.aload_n 0, 1) := by decide +kernel
theorem dX7_house_13 : decode cX7_house 13 = .ok (.getfield 19, 3) := by decide +kernel
theorem dX7_house_16 : decode cX7_house 16 = .ok (.invokevirtual 116, 3) := by decide +kernel
theorem dX7_house_19 : decode cX7_house 19 = .ok (.iload_n 1, 1) := by decide +kernel
theorem dX7_house_20 : decode cX7_house 20 = .ok (.ifCond .ne 25, 3) := by decide +kernel
theorem dX7_house_23 : decode cX7_house 23 = .ok (.aload_n 0, 1) := by decide +kernel
theorem dX7_house_24 : decode cX7_house 24 = .ok (.aload_n 0, 1) := by decide +kernel
theorem dX7_house_25 : decode cX7_house 25 = .ok (.getfield 19, 3) := by decide +kernel
theorem dX7_house_28 : decode cX7_house 28 = .ok (.getfield 119, 3) := by decide +kernel
theorem dX7_house_31 : decode cX7_house 31 = .ok (.putfield 122, 3) := by decide +kernel
theorem dX7_house_34 : decode cX7_house 34 = .ok (.ldc 125, 2) := by decide +kernel
theorem dX7_house_36 : decode cX7_house 36 = .ok (.aload_n 0, 1) := by decide +kernel
theorem dX7_house_37 : decode cX7_house 37 = .ok (.getfield 19, 3) := by decide +kernel
theorem dX7_house_40 : decode cX7_house 40 = .ok (.getfield 126, 3) := by decide +kernel
theorem dX7_house_43 : decode cX7_house 43 = .ok (.isub, 1) := by decide +kernel
theorem dX7_house_44 : decode cX7_house 44 = .ok (.ireturn, 1) := by decide +kernel
theorem dX7_house_45 : decode cX7_house 45 = .ok (.aload_n 0, 1) := by decide +kernel
theorem dX7_house_46 : decode cX7_house 46 = .ok (.getfield 26, 3) := by decide +kernel
theorem dX7_house_49 : decode cX7_house 49 = .ok (.aload_n 0, 1) := by decide +kernel
theorem dX7_house_50 : decode cX7_house 50 = .ok (.getfield 30, 3) := by decide +kernel
theorem dX7_house_53 : decode cX7_house 53 = .ok (.invokevirtual 129, 3) := by decide +kernel
theorem dX7_house_56 : decode cX7_house 56 = .ok (.aload_n 0, 1) := by decide +kernel
theorem dX7_house_57 : decode cX7_house 57 = .ok (.getfield 42, 3) := by decide +kernel
theorem dX7_house_60 : decode cX7_house 60 = .ok (.invokevirtual 133, 3) := by decide +kernel
theorem dX7_house_63 : decode cX7_house 63 = .ok (.aload_n 0, 1) := by decide +kernel
theorem dX7_house_64 : decode cX7_house 64 = .ok (.getfield 26, 3) := by decide +kernel
theorem dX7_house_67 : decode cX7_house 67 = .ok (.getfield 136, 3) := by decide +kernel
theorem dX7_house_70 : decode cX7_house 70 = .ok (.ireturn, 1) := by decide +kernel
theorem dX7_fault_0 : decode cX7_fault 0 = .ok (.aload_n 0, 1) := by decide +kernel
theorem dX7_fault_1 : decode cX7_fault 1 = .ok (.getfield 122, 3) := by decide +kernel
theorem dX7_fault_4 : decode cX7_fault 4 = .ok (.ireturn, 1) := by decide +kernel
theorem dX7_years_0 : decode cX7_years 0 = .ok (.aload_n 0, 1) := by decide +kernel
theorem dX7_years_1 : decode cX7_years 1 = .ok (.getfield 26, 3) := by decide +kernel
theorem dX7_years_4 : decode cX7_years 4 = .ok (.getfield 139, 3) := by decide +kernel
theorem dX7_years_7 : decode cX7_years 7 = .ok (.ifCond .ne 6, 3) := by decide +kernel
theorem dX7_years_10 : decode cX7_years 10 = .ok (.ldc 143, 2) := by decide +kernel
theorem dX7_years_12 : decode cX7_years 12 = .ok (.ireturn, 1) := by decide +kernel
theorem dX7_years_13 : decode cX7_years 13 = .ok (.iload_n 1, 1) := by decide +kernel
theorem dX7_years_14 : decode cX7_years 14 = .ok (.iconst 1, 1) := by decide +kernel
theorem dX7_years_15 : decode cX7_years 15 = .ok (.bipush 24, 2) := by decide +kernel
theorem dX7_years_17 : decode cX7_years 17 = .ok (.invokestatic 101, 3) := by decide +kernel
theorem dX7_years_20 : decode cX7_years 20 = .ok (.ifCond .ne 6, 3) := by decide +kernel
theorem dX7_years_23 : decode cX7_years 23 = .ok (.ldc 67, 2) := by decide +kernel
theorem dX7_years_25 : decode cX7_years 25 = .ok (.ireturn, 1) := by decide +kernel
theorem dX7_years_26 : decode cX7_years 26 = .ok (.aload_n 0, 1) := by decide +kernel
theorem dX7_years_27 : decode cX7_years 27 = .ok (.getfield 26, 3) := by decide +kernel
theorem dX7_years_30 : decode cX7_years 30 = .ok (.getfield 144, 3) := by decide +kernel
theorem dX7_years_33 : decode cX7_years 33 = .ok (.iload_n 1, 1) := by decide +kernel
theorem dX7_years_34 : decode cX7_years 34 = .ok (.iadd, 1) := by decide +kernel
theorem dX7_years_35 : decode cX7_years 35 = .ok (.sipush 999, 3) := by decide +kernel
theorem dX7_years_38 : decode cX7_years 38 = .ok (.if_icmp .le 6, 3) := by decide +kernel
theorem dX7_years_41 : decode cX7_years 41 = .ok (.ldc 111, 2) := by decide +kernel
theorem dX7_years_43 : decode cX7_years 43 = .ok (.ireturn, 1) := by decide +kernel
theorem dX7_years_44 : decode cX7_years 44 = .ok (.iconst 0, 1) := by decide +kernel
theorem dX7_years_45 : decode cX7_years 45 = .ok (.istore_n 2, 1) := by decide +kernel
theorem dX7_years_46 : decode cX7_years 46 = .ok (.iload_n 2, 1) := by decide +kernel
theorem dX7_years_47 : decode cX7_years 47 = .ok (.iload_n 1, 1) := by decide +kernel
theorem dX7_years_48 : decode cX7_years 48 = .ok (.if_icmp .ge 31, 3) := by decide +kernel
theorem dX7_years_51 : decode cX7_years 51 = .ok (.aload_n 0, 1) := by decide +kernel
theorem dX7_years_52 : decode cX7_years 52 = .ok (.getfield 42, 3) := by decide +kernel
theorem dX7_years_55 : decode cX7_years 55 = .ok (.aload_n 0, 1) := by decide +kernel
theorem dX7_years_56 : decode cX7_years 56 = .ok (.getfield 26, 3) := by decide +kernel
theorem dX7_years_59 : decode cX7_years 59 = .ok (.invokevirtual 147, 3) := by decide +kernel
theorem dX7_years_62 : decode cX7_years 62 = .ok (.aload_n 0, 1) := by decide +kernel
theorem dX7_years_63 : decode cX7_years 63 = .ok (.getfield 49, 3) := by decide +kernel
theorem dX7_years_66 : decode cX7_years 66 = .ok (.aload_n 0, 1) := by decide +kernel
theorem dX7_years_67 : decode cX7_years 67 = .ok (.getfield 26, 3) := by decide +kernel
theorem dX7_years_70 : decode cX7_years 70 = .ok (.invokevirtual 150, 3) := by decide +kernel
theorem dX7_years_73 : decode cX7_years 73 = .ok (.iinc 2 1, 3) := by decide +kernel
theorem dX7_years_76 : decode cX7_years 76 = .ok (.goto (-30), 3) := by decide +kernel
theorem dX7_years_79 : decode cX7_years 79 = .ok (.aload_n 0, 1) := by decide +kernel
theorem dX7_years_80 : decode cX7_years 80 = .ok (.getfield 26, 3) := by decide +kernel
theorem dX7_years_83 : decode cX7_years 83 = .ok (.invokevirtual 153, 3) := by decide +kernel
theorem dX7_years_86 : decode cX7_years 86 = .ok (.ireturn, 1) := by decide +kernel
theorem dX7_deed_0 : decode cX7_deed 0 = .ok (.aload_n 0, 1) := by decide +kernel
theorem dX7_deed_1 : decode cX7_deed 1 = .ok (.getfield 26, 3) := by decide +kernel
theorem dX7_deed_4 : decode cX7_deed 4 = .ok (.iload_n 1, 1) := by decide +kernel
theorem dX7_deed_5 : decode cX7_deed 5 = .ok (.invokevirtual 157, 3) := by decide +kernel
theorem dX7_deed_8 : decode cX7_deed 8 = .ok (.ifCond .eq 13, 3) := by decide +kernel
theorem dX7_deed_11 : decode cX7_deed 11 = .ok (.iload_n 2, 1) := by decide +kernel
theorem dX7_deed_12 : decode cX7_deed 12 = .ok (.iconst 1, 1) := by decide +kernel
theorem dX7_deed_13 : decode cX7_deed 13 = .ok (.bipush 60, 2) := by decide +kernel
theorem dX7_deed_15 : decode cX7_deed 15 = .ok (.invokestatic 101, 3) := by decide +kernel
theorem dX7_deed_18 : decode cX7_deed 18 = .ok (.ifCond .ne 6, 3) := by decide +kernel
theorem dX7_deed_21 : decode cX7_deed 21 = .ok (.ldc 67, 2) := by decide +kernel
theorem dX7_deed_23 : decode cX7_deed 23 = .ok (.ireturn, 1) := by decide +kernel
theorem dX7_deed_24 : decode cX7_deed 24 = .ok (.aload_n 0, 1) := by decide +kernel
theorem dX7_deed_25 : decode cX7_deed 25 = .ok (.getfield 26, 3) := by decide +kernel
theorem dX7_deed_28 : decode cX7_deed 28 = .ok (.getfield 160, 3) := by decide +kernel
theorem dX7_deed_31 : decode cX7_deed 31 = .ok (.iload_n 1, 1) := by decide +kernel
theorem dX7_deed_32 : decode cX7_deed 32 = .ok (.iaload, 1) := by decide +kernel
theorem dX7_deed_33 : decode cX7_deed 33 = .ok (.ifCond .ne 6, 3) := by decide +kernel
theorem dX7_deed_36 : decode cX7_deed 36 = .ok (.ldc 143, 2) := by decide +kernel
theorem dX7_deed_38 : decode cX7_deed 38 = .ok (.ireturn, 1) := by decide +kernel
theorem dX7_deed_39 : decode cX7_deed 39 = .ok (.aload_n 0, 1) := by decide +kernel
theorem dX7_deed_40 : decode cX7_deed 40 = .ok (.getfield 42, 3) := by decide +kernel
theorem dX7_deed_43 : decode cX7_deed 43 = .ok (.aload_n 0, 1) := by decide +kernel
theorem dX7_deed_44 : decode cX7_deed 44 = .ok (.getfield 26, 3) := by decide +kernel
theorem dX7_deed_47 : decode cX7_deed 47 = .ok (.invokevirtual 147, 3) := by decide +kernel
theorem dX7_deed_50 : decode cX7_deed 50 = .ok (.aload_n 0, 1) := by decide +kernel
theorem dX7_deed_51 : decode cX7_deed 51 = .ok (.getfield 26, 3) := by decide +kernel
theorem dX7_deed_54 : decode cX7_deed 54 = .ok (.getfield 160, 3) := by decide +kernel
theorem dX7_deed_57 : decode cX7_deed 57 = .ok (.iload_n 1, 1) := by decide +kernel
theorem dX7_deed_58 : decode cX7_deed 58 = .ok (.iconst 0, 1) := by decide +kernel
theorem dX7_deed_59 : decode cX7_deed 59 = .ok (.aload_n 0, 1) := by decide +kernel
theorem dX7_deed_60 : decode cX7_deed 60 = .ok (.getfield 26, 3) := by decide +kernel
theorem dX7_deed_63 : decode cX7_deed 63 = .ok (.getfield 160, 3) := by decide +kernel
theorem dX7_deed_66 : decode cX7_deed 66 = .ok (.iload_n 1, 1) := by decide +kernel
theorem dX7_deed_67 : decode cX7_deed 67 = .ok (.iaload, 1) := by decide +kernel
theorem dX7_deed_68 : decode cX7_deed 68 = .ok (.iload_n 2, 1) := by decide +kernel
theorem dX7_deed_69 : decode cX7_deed 69 = .ok (.isub, 1) := by decide +kernel
theorem dX7_deed_70 : decode cX7_deed 70 = .ok (.invokestatic 164, 3) := by decide +kernel
theorem dX7_deed_73 : decode cX7_deed 73 = .ok (.iastore, 1) := by decide +kernel
theorem dX7_deed_74 : decode cX7_deed 74 = .ok (.aload_n 0, 1) := by decide +kernel
theorem dX7_deed_75 : decode cX7_deed 75 = .ok (.getfield 26, 3) := by decide +kernel
theorem dX7_deed_78 : decode cX7_deed 78 = .ok (.getfield 160, 3) := by decide +kernel
theorem dX7_deed_81 : decode cX7_deed 81 = .ok (.iload_n 1, 1) := by decide +kernel
theorem dX7_deed_82 : decode cX7_deed 82 = .ok (.iaload, 1) := by decide +kernel
theorem dX7_deed_83 : decode cX7_deed 83 = .ok (.ireturn, 1) := by decide +kernel
theorem dX7_restore_0 : decode cX7_restore 0 = .ok (.aload_n 0, 1) := by decide +kernel
theorem dX7_restore_1 : decode cX7_restore 1 = .ok (.getfield 26, 3) := by decide +kernel
theorem dX7_restore_4 : decode cX7_restore 4 = .ok (.iload_n 1, 1) := by decide +kernel
theorem dX7_restore_5 : decode cX7_restore 5 = .ok (.invokevirtual 157, 3) := by decide +kernel
theorem dX7_restore_8 : decode cX7_restore 8 = .ok (.ifCond .eq 13, 3) := by decide +kernel
theorem dX7_restore_11 : decode cX7_restore 11 = .ok (.iload_n 2, 1) := by decide +kernel
theorem dX7_restore_12 : decode cX7_restore 12 = .ok (.iconst 1, 1) := by decide +kernel
theorem dX7_restore_13 : decode cX7_restore 13 = .ok (.bipush 60, 2) := by decide +kernel
theorem dX7_restore_15 : decode cX7_restore 15 = .ok (.invokestatic 101, 3) := by decide +kernel
theorem dX7_restore_18 : decode cX7_restore 18 = .ok (.ifCond .ne 6, 3) := by decide +kernel
theorem dX7_restore_21 : decode cX7_restore 21 = .ok (.ldc 67, 2) := by decide +kernel
theorem dX7_restore_23 : decode cX7_restore 23 = .ok (.ireturn, 1) := by decide +kernel
theorem dX7_restore_24 : decode cX7_restore 24 = .ok (.iload_n 2, 1) := by decide +kernel
theorem dX7_restore_25 : decode cX7_restore 25 = .ok (.bipush 60, 2) := by decide +kernel
theorem dX7_restore_27 : decode cX7_restore 27 = .ok (.aload_n 0, 1) := by decide +kernel
theorem dX7_restore_28 : decode cX7_restore 28 = .ok (.getfield 26, 3) := by decide +kernel
theorem dX7_restore_31 : decode cX7_restore 31 = .ok (.getfield 160, 3) := by decide +kernel
theorem dX7_restore_34 : decode cX7_restore 34 = .ok (.iload_n 1, 1) := by decide +kernel
theorem dX7_restore_35 : decode cX7_restore 35 = .ok (.iaload, 1) := by decide +kernel
theorem dX7_restore_36 : decode cX7_restore 36 = .ok (.isub, 1) := by decide +kernel
theorem dX7_restore_37 : decode cX7_restore 37 = .ok (.invokestatic 170, 3) := by decide +kernel
theorem dX7_restore_40 : decode cX7_restore 40 = .ok (.istore_n 3, 1) := by decide +kernel
theorem dX7_restore_41 : decode cX7_restore 41 = .ok (.aload_n 0, 1) := by decide +kernel
theorem dX7_restore_42 : decode cX7_restore 42 = .ok (.getfield 26, 3) := by decide +kernel
theorem dX7_restore_45 : decode cX7_restore 45 = .ok (.getfield 160, 3) := by decide +kernel
theorem dX7_restore_48 : decode cX7_restore 48 = .ok (.iload_n 1, 1) := by decide +kernel
theorem dX7_restore_49 : decode cX7_restore 49 = .ok (.iaload, 1) := by decide +kernel
theorem dX7_restore_50 : decode cX7_restore 50 = .ok (.ifCond .eq 14, 3) := by decide +kernel
theorem dX7_restore_53 : decode cX7_restore 53 = .ok (.iload_n 3, 1) := by decide +kernel
theorem dX7_restore_54 : decode cX7_restore 54 = .ok (.aload_n 0, 1) := by decide +kernel
theorem dX7_restore_55 : decode cX7_restore 55 = .ok (.getfield 26, 3) := by decide +kernel
theorem dX7_restore_58 : decode cX7_restore 58 = .ok (.getfield 173, 3) := by decide +kernel
theorem dX7_restore_61 : decode cX7_restore 61 = .ok (.if_icmp .le 6, 3) := by decide +kernel
theorem dX7_restore_64 : decode cX7_restore 64 = .ok (.ldc 143, 2) := by decide +kernel
theorem dX7_restore_66 : decode cX7_restore 66 = .ok (.ireturn, 1) := by decide +kernel
theorem dX7_restore_67 : decode cX7_restore 67 = .ok (.aload_n 0, 1) := by decide +kernel
theorem dX7_restore_68 : decode cX7_restore 68 = .ok (.getfield 42, 3) := by decide +kernel
theorem dX7_restore_71 : decode cX7_restore 71 = .ok (.aload_n 0, 1) := by decide +kernel
theorem dX7_restore_72 : decode cX7_restore 72 = .ok (.getfield 26, 3) := by decide +kernel
theorem dX7_restore_75 : decode cX7_restore 75 = .ok (.invokevirtual 147, 3) := by decide +kernel
theorem dX7_restore_78 : decode cX7_restore 78 = .ok (.aload_n 0, 1) := by decide +kernel
theorem dX7_restore_79 : decode cX7_restore 79 = .ok (.getfield 26, 3) := by decide +kernel
theorem dX7_restore_82 : decode cX7_restore 82 = .ok (.getfield 160, 3) := by decide +kernel
theorem dX7_restore_85 : decode cX7_restore 85 = .ok (.iload_n 1, 1) := by decide +kernel
theorem dX7_restore_86 : decode cX7_restore 86 = .ok (.dup2, 1) := by decide +kernel
theorem dX7_restore_87 : decode cX7_restore 87 = .ok (.iaload, 1) := by decide +kernel
theorem dX7_restore_88 : decode cX7_restore 88 = .ok (.iload_n 3, 1) := by decide +kernel
theorem dX7_restore_89 : decode cX7_restore 89 = .ok (.iadd, 1) := by decide +kernel
theorem dX7_restore_90 : decode cX7_restore 90 = .ok (.iastore, 1) := by decide +kernel
theorem dX7_restore_91 : decode cX7_restore 91 = .ok (.aload_n 0, 1) := by decide +kernel
theorem dX7_restore_92 : decode cX7_restore 92 = .ok (.getfield 26, 3) := by decide +kernel
theorem dX7_restore_95 : decode cX7_restore 95 = .ok (.dup, 1) := by decide +kernel
theorem dX7_restore_96 : decode cX7_restore 96 = .ok (.getfield 173, 3) := by decide +kernel
theorem dX7_restore_99 : decode cX7_restore 99 = .ok (.iload_n 3, 1) := by decide +kernel
theorem dX7_restore_100 : decode cX7_restore 100 = .ok (.isub, 1) := by decide +kernel
theorem dX7_restore_101 : decode cX7_restore 101 = .ok (.putfield 173, 3) := by decide +kernel
theorem dX7_restore_104 : decode cX7_restore 104 = .ok (.aload_n 0, 1) := by decide +kernel
theorem dX7_restore_105 : decode cX7_restore 105 = .ok (.getfield 26, 3) := by decide +kernel
theorem dX7_restore_108 : decode cX7_restore 108 = .ok (.getfield 160, 3) := by decide +kernel
theorem dX7_restore_111 : decode cX7_restore 111 = .ok (.iload_n 1, 1) := by decide +kernel
theorem dX7_restore_112 : decode cX7_restore 112 = .ok (.iaload, 1) := by decide +kernel
theorem dX7_restore_113 : decode cX7_restore 113 = .ok (.ireturn, 1) := by decide +kernel
theorem dX7_hang_0 : decode cX7_hang 0 = .ok (.aload_n 0, 1) := by decide +kernel
theorem dX7_hang_1 : decode cX7_hang 1 = .ok (.getfield 26, 3) := by decide +kernel
theorem dX7_hang_4 : decode cX7_hang 4 = .ok (.iload_n 1, 1) := by decide +kernel
theorem dX7_hang_5 : decode cX7_hang 5 = .ok (.invokevirtual 157, 3) := by decide +kernel
theorem dX7_hang_8 : decode cX7_hang 8 = .ok (.ifCond .eq 14, 3) := by decide +kernel
theorem dX7_hang_11 : decode cX7_hang 11 = .ok (.aload_n 0, 1) := by decide +kernel
theorem dX7_hang_12 : decode cX7_hang 12 = .ok (.getfield 26, 3) := by decide +kernel
theorem dX7_hang_15 : decode cX7_hang 15 = .ok (.iload_n 2, 1) := by decide +kernel
theorem dX7_hang_16 : decode cX7_hang 16 = .ok (.invokevirtual 176, 3) := by decide +kernel
theorem dX7_hang_19 : decode cX7_hang 19 = .ok (.ifCond .ne 6, 3) := by decide +kernel
theorem dX7_hang_22 : decode cX7_hang 22 = .ok (.ldc 67, 2) := by decide +kernel
theorem dX7_hang_24 : decode cX7_hang 24 = .ok (.ireturn, 1) := by decide +kernel
theorem dX7_hang_25 : decode cX7_hang 25 = .ok (.aload_n 0, 1) := by decide +kernel
theorem dX7_hang_26 : decode cX7_hang 26 = .ok (.getfield 26, 3) := by decide +kernel
theorem dX7_hang_29 : decode cX7_hang 29 = .ok (.getfield 179, 3) := by decide +kernel
theorem dX7_hang_32 : decode cX7_hang 32 = .ok (.iload_n 1, 1) := by decide +kernel
theorem dX7_hang_33 : decode cX7_hang 33 = .ok (.iaload, 1) := by decide +kernel
theorem dX7_hang_34 : decode cX7_hang 34 = .ok (.istore_n 3, 1) := by decide +kernel
theorem dX7_hang_35 : decode cX7_hang 35 = .ok (.iload_n 3, 1) := by decide +kernel
theorem dX7_hang_36 : decode cX7_hang 36 = .ok (.iload_n 2, 1) := by decide +kernel
theorem dX7_hang_37 : decode cX7_hang 37 = .ok (.if_icmp .ne 6, 3) := by decide +kernel
theorem dX7_hang_40 : decode cX7_hang 40 = .ok (.ldc 143, 2) := by decide +kernel
theorem dX7_hang_42 : decode cX7_hang 42 = .ok (.ireturn, 1) := by decide +kernel
theorem dX7_hang_43 : decode cX7_hang 43 = .ok (.aload_n 0, 1) := by decide +kernel
theorem dX7_hang_44 : decode cX7_hang 44 = .ok (.getfield 26, 3) := by decide +kernel
theorem dX7_hang_47 : decode cX7_hang 47 = .ok (.iload_n 2, 1) := by decide +kernel
theorem dX7_hang_48 : decode cX7_hang 48 = .ok (.invokevirtual 182, 3) := by decide +kernel
theorem dX7_hang_51 : decode cX7_hang 51 = .ok (.ifCond .ne 6, 3) := by decide +kernel
theorem dX7_hang_54 : decode cX7_hang 54 = .ok (.ldc 111, 2) := by decide +kernel
theorem dX7_hang_56 : decode cX7_hang 56 = .ok (.ireturn, 1) := by decide +kernel
theorem dX7_hang_57 : decode cX7_hang 57 = .ok (.aload_n 0, 1) := by decide +kernel
theorem dX7_hang_58 : decode cX7_hang 58 = .ok (.getfield 42, 3) := by decide +kernel
theorem dX7_hang_61 : decode cX7_hang 61 = .ok (.aload_n 0, 1) := by decide +kernel
theorem dX7_hang_62 : decode cX7_hang 62 = .ok (.getfield 26, 3) := by decide +kernel
theorem dX7_hang_65 : decode cX7_hang 65 = .ok (.invokevirtual 147, 3) := by decide +kernel
theorem dX7_hang_68 : decode cX7_hang 68 = .ok (.aload_n 0, 1) := by decide +kernel
theorem dX7_hang_69 : decode cX7_hang 69 = .ok (.getfield 26, 3) := by decide +kernel
theorem dX7_hang_72 : decode cX7_hang 72 = .ok (.getfield 179, 3) := by decide +kernel
theorem dX7_hang_75 : decode cX7_hang 75 = .ok (.iload_n 1, 1) := by decide +kernel
theorem dX7_hang_76 : decode cX7_hang 76 = .ok (.iload_n 2, 1) := by decide +kernel
theorem dX7_hang_77 : decode cX7_hang 77 = .ok (.iastore, 1) := by decide +kernel
theorem dX7_hang_78 : decode cX7_hang 78 = .ok (.iload_n 3, 1) := by decide +kernel
theorem dX7_hang_79 : decode cX7_hang 79 = .ok (.ireturn, 1) := by decide +kernel
theorem dX7_undo_0 : decode cX7_undo 0 = .ok (.aload_n 0, 1) := by decide +kernel
theorem dX7_undo_1 : decode cX7_undo 1 = .ok (.getfield 42, 3) := by decide +kernel
theorem dX7_undo_4 : decode cX7_undo 4 = .ok (.aload_n 0, 1) := by decide +kernel
theorem dX7_undo_5 : decode cX7_undo 5 = .ok (.getfield 26, 3) := by decide +kernel
theorem dX7_undo_8 : decode cX7_undo 8 = .ok (.invokevirtual 185, 3) := by decide +kernel
theorem dX7_undo_11 : decode cX7_undo 11 = .ok (.ifCond .eq 13, 3) := by decide +kernel
theorem dX7_undo_14 : decode cX7_undo 14 = .ok (.aload_n 0, 1) := by decide +kernel
theorem dX7_undo_15 : decode cX7_undo 15 = .ok (.getfield 42, 3) := by decide +kernel
theorem dX7_undo_18 : decode cX7_undo 18 = .ok (.getfield 188, 3) := by decide +kernel
theorem dX7_undo_21 : decode cX7_undo 21 = .ok (.goto 5, 3) := by decide +kernel
theorem dX7_undo_24 : decode cX7_undo 24 = .ok (.ldc 143, 2) := by decide +kernel
theorem dX7_undo_26 : decode cX7_undo 26 = .ok (.ireturn, 1) := by decide +kernel
theorem dX7_picture_0 : decode cX7_picture 0 = .ok (.aload_n 0, 1) := by decide +kernel
theorem dX7_picture_1 : decode cX7_picture 1 = .ok (.getfield 26, 3) := by decide +kernel
theorem dX7_picture_4 : decode cX7_picture 4 = .ok (.iload_n 1, 1) := by decide +kernel
theorem dX7_picture_5 : decode cX7_picture 5 = .ok (.invokevirtual 157, 3) := by decide +kernel
theorem dX7_picture_8 : decode cX7_picture 8 = .ok (.ifCond .ne 6, 3) := by decide +kernel
theorem dX7_picture_11 : decode cX7_picture 11 = .ok (.ldc 67, 2) := by decide +kernel
theorem dX7_picture_13 : decode cX7_picture 13 = .ok (.ireturn, 1) := by decide +kernel
theorem dX7_picture_14 : decode cX7_picture 14 = .ok (.iload_n 2, 1) := by decide +kernel
theorem dX7_picture_15 : decode cX7_picture 15 = .ok (.tableswitch 94 0 4 #[33, 43, 53, 63, 81], 33) := by decide +kernel
theorem dX7_picture_48 : decode cX7_picture 48 = .ok (.aload_n 0, 1) := by decide +kernel
theorem dX7_picture_49 : decode cX7_picture 49 = .ok (.getfield 26, 3) := by decide +kernel
theorem dX7_picture_52 : decode cX7_picture 52 = .ok (.getfield 191, 3) := by decide +kernel
theorem dX7_picture_55 : decode cX7_picture 55 = .ok (.iload_n 1, 1) := by decide +kernel
theorem dX7_picture_56 : decode cX7_picture 56 = .ok (.iaload, 1) := by decide +kernel
theorem dX7_picture_57 : decode cX7_picture 57 = .ok (.ireturn, 1) := by decide +kernel
theorem dX7_picture_58 : decode cX7_picture 58 = .ok (.aload_n 0, 1) := by decide +kernel
theorem dX7_picture_59 : decode cX7_picture 59 = .ok (.getfield 26, 3) := by decide +kernel
theorem dX7_picture_62 : decode cX7_picture 62 = .ok (.getfield 160, 3) := by decide +kernel
theorem dX7_picture_65 : decode cX7_picture 65 = .ok (.iload_n 1, 1) := by decide +kernel
theorem dX7_picture_66 : decode cX7_picture 66 = .ok (.iaload, 1) := by decide +kernel
theorem dX7_picture_67 : decode cX7_picture 67 = .ok (.ireturn, 1) := by decide +kernel
theorem dX7_picture_68 : decode cX7_picture 68 = .ok (.aload_n 0, 1) := by decide +kernel
theorem dX7_picture_69 : decode cX7_picture 69 = .ok (.getfield 26, 3) := by decide +kernel
theorem dX7_picture_72 : decode cX7_picture 72 = .ok (.getfield 179, 3) := by decide +kernel
theorem dX7_picture_75 : decode cX7_picture 75 = .ok (.iload_n 1, 1) := by decide +kernel
theorem dX7_picture_76 : decode cX7_picture 76 = .ok (.iaload, 1) := by decide +kernel
theorem dX7_picture_77 : decode cX7_picture 77 = .ok (.ireturn, 1) := by decide +kernel
theorem dX7_picture_78 : decode cX7_picture 78 = .ok (.aload_n 0, 1) := by decide +kernel
theorem dX7_picture_79 : decode cX7_picture 79 = .ok (.getfield 26, 3) := by decide +kernel
theorem dX7_picture_82 : decode cX7_picture 82 = .ok (.getfield 160, 3) := by decide +kernel
theorem dX7_picture_85 : decode cX7_picture 85 = .ok (.iload_n 1, 1) := by decide +kernel
theorem dX7_picture_86 : decode cX7_picture 86 = .ok (.iaload, 1) := by decide +kernel
theorem dX7_picture_87 : decode cX7_picture 87 = .ok (.ifCond .le 7, 3) := by decide +kernel
theorem dX7_picture_90 : decode cX7_picture 90 = .ok (.iconst 1, 1) := by decide +kernel
theorem dX7_picture_91 : decode cX7_picture 91 = .ok (.goto 4, 3) := by decide +kernel
theorem dX7_picture_94 : decode cX7_picture 94 = .ok (.iconst 0, 1) := by decide +kernel
theorem dX7_picture_95 : decode cX7_picture 95 = .ok (.ireturn, 1) := by decide +kernel
theorem dX7_picture_96 : decode cX7_picture 96 = .ok (.aload_n 0, 1) := by decide +kernel
theorem dX7_picture_97 : decode cX7_picture 97 = .ok (.getfield 49, 3) := by decide +kernel
theorem dX7_picture_100 : decode cX7_picture 100 = .ok (.aload_n 0, 1) := by decide +kernel
theorem dX7_picture_101 : decode cX7_picture 101 = .ok (.getfield 26, 3) := by decide +kernel
theorem dX7_picture_104 : decode cX7_picture 104 = .ok (.iload_n 1, 1) := by decide +kernel
theorem dX7_picture_105 : decode cX7_picture 105 = .ok (.invokevirtual 194, 3) := by decide +kernel
theorem dX7_picture_108 : decode cX7_picture 108 = .ok (.ireturn, 1) := by decide +kernel
theorem dX7_picture_109 : decode cX7_picture 109 = .ok (.ldc 67, 2) := by decide +kernel
theorem dX7_picture_111 : decode cX7_picture 111 = .ok (.ireturn, 1) := by decide +kernel
theorem dX7_wall_0 : decode cX7_wall 0 = .ok (.aload_n 0, 1) := by decide +kernel
theorem dX7_wall_1 : decode cX7_wall 1 = .ok (.getfield 26, 3) := by decide +kernel
theorem dX7_wall_4 : decode cX7_wall 4 = .ok (.iload_n 1, 1) := by decide +kernel
theorem dX7_wall_5 : decode cX7_wall 5 = .ok (.invokevirtual 176, 3) := by decide +kernel
theorem dX7_wall_8 : decode cX7_wall 8 = .ok (.ifCond .ne 6, 3) := by decide +kernel
theorem dX7_wall_11 : decode cX7_wall 11 = .ok (.ldc 67, 2) := by decide +kernel
theorem dX7_wall_13 : decode cX7_wall 13 = .ok (.ireturn, 1) := by decide +kernel
theorem dX7_wall_14 : decode cX7_wall 14 = .ok (.iload_n 2, 1) := by decide +kernel
theorem dX7_wall_15 : decode cX7_wall 15 = .ok (.tableswitch 54 0 2 #[25, 35, 45], 25) := by decide +kernel
theorem dX7_wall_40 : decode cX7_wall 40 = .ok (.aload_n 0, 1) := by decide +kernel
theorem dX7_wall_41 : decode cX7_wall 41 = .ok (.getfield 26, 3) := by decide +kernel
theorem dX7_wall_44 : decode cX7_wall 44 = .ok (.getfield 198, 3) := by decide +kernel
theorem dX7_wall_47 : decode cX7_wall 47 = .ok (.iload_n 1, 1) := by decide +kernel
theorem dX7_wall_48 : decode cX7_wall 48 = .ok (.iaload, 1) := by decide +kernel
theorem dX7_wall_49 : decode cX7_wall 49 = .ok (.ireturn, 1) := by decide +kernel
theorem dX7_wall_50 : decode cX7_wall 50 = .ok (.aload_n 0, 1) := by decide +kernel
theorem dX7_wall_51 : decode cX7_wall 51 = .ok (.getfield 26, 3) := by decide +kernel
theorem dX7_wall_54 : decode cX7_wall 54 = .ok (.getfield 201, 3) := by decide +kernel
theorem dX7_wall_57 : decode cX7_wall 57 = .ok (.iload_n 1, 1) := by decide +kernel
theorem dX7_wall_58 : decode cX7_wall 58 = .ok (.iaload, 1) := by decide +kernel
theorem dX7_wall_59 : decode cX7_wall 59 = .ok (.ireturn, 1) := by decide +kernel
theorem dX7_wall_60 : decode cX7_wall 60 = .ok (.aload_n 0, 1) := by decide +kernel
theorem dX7_wall_61 : decode cX7_wall 61 = .ok (.getfield 26, 3) := by decide +kernel
theorem dX7_wall_64 : decode cX7_wall 64 = .ok (.iload_n 1, 1) := by decide +kernel
theorem dX7_wall_65 : decode cX7_wall 65 = .ok (.invokevirtual 204, 3) := by decide +kernel
theorem dX7_wall_68 : decode cX7_wall 68 = .ok (.ireturn, 1) := by decide +kernel
theorem dX7_wall_69 : decode cX7_wall 69 = .ok (.ldc 67, 2) := by decide +kernel
theorem dX7_wall_71 : decode cX7_wall 71 = .ok (.ireturn, 1) := by decide +kernel
theorem dX7_remains_0 : decode cX7_remains 0 = .ok (.aload_n 0, 1) := by decide +kernel
theorem dX7_remains_1 : decode cX7_remains 1 = .ok (.getfield 26, 3) := by decide +kernel
theorem dX7_remains_4 : decode cX7_remains 4 = .ok (.iload_n 1, 1) := by decide +kernel
theorem dX7_remains_5 : decode cX7_remains 5 = .ok (.invokevirtual 157, 3) := by decide +kernel
theorem dX7_remains_8 : decode cX7_remains 8 = .ok (.ifCond .eq 10, 3) := by decide +kernel
theorem dX7_remains_11 : decode cX7_remains 11 = .ok (.iload_n 2, 1) := by decide +kernel
theorem dX7_remains_12 : decode cX7_remains 12 = .ok (.invokestatic 207, 3) := by decide +kernel
theorem dX7_remains_15 : decode cX7_remains 15 = .ok (.ifCond .ne 6, 3) := by decide +kernel
theorem dX7_remains_18 : decode cX7_remains 18 = .ok (.ldc 67, 2) := by decide +kernel
theorem dX7_remains_20 : decode cX7_remains 20 = .ok (.ireturn, 1) := by decide +kernel
theorem dX7_remains_21 : decode cX7_remains 21 = .ok (.aload_n 0, 1) := by decide +kernel
theorem dX7_remains_22 : decode cX7_remains 22 = .ok (.getfield 49, 3) := by decide +kernel
theorem dX7_remains_25 : decode cX7_remains 25 = .ok (.aload_n 0, 1) := by decide +kernel
theorem dX7_remains_26 : decode cX7_remains 26 = .ok (.getfield 26, 3) := by decide +kernel
theorem dX7_remains_29 : decode cX7_remains 29 = .ok (.iload_n 1, 1) := by decide +kernel
theorem dX7_remains_30 : decode cX7_remains 30 = .ok (.iload_n 2, 1) := by decide +kernel
theorem dX7_remains_31 : decode cX7_remains 31 = .ok (.invokevirtual 210, 3) := by decide +kernel
theorem dX7_remains_34 : decode cX7_remains 34 = .ok (.ireturn, 1) := by decide +kernel
theorem dX7_lives_0 : decode cX7_lives 0 = .ok (.aload_n 0, 1) := by decide +kernel
theorem dX7_lives_1 : decode cX7_lives 1 = .ok (.getfield 26, 3) := by decide +kernel
theorem dX7_lives_4 : decode cX7_lives 4 = .ok (.getfield 139, 3) := by decide +kernel
theorem dX7_lives_7 : decode cX7_lives 7 = .ok (.ifCond .ne 6, 3) := by decide +kernel
theorem dX7_lives_10 : decode cX7_lives 10 = .ok (.ldc 143, 2) := by decide +kernel
theorem dX7_lives_12 : decode cX7_lives 12 = .ok (.ireturn, 1) := by decide +kernel
theorem dX7_lives_13 : decode cX7_lives 13 = .ok (.iload_n 1, 1) := by decide +kernel
theorem dX7_lives_14 : decode cX7_lives 14 = .ok (.invokestatic 207, 3) := by decide +kernel
theorem dX7_lives_17 : decode cX7_lives 17 = .ok (.ifCond .eq 18, 3) := by decide +kernel
theorem dX7_lives_20 : decode cX7_lives 20 = .ok (.aload_n 0, 1) := by decide +kernel
theorem dX7_lives_21 : decode cX7_lives 21 = .ok (.getfield 49, 3) := by decide +kernel
theorem dX7_lives_24 : decode cX7_lives 24 = .ok (.aload_n 0, 1) := by decide +kernel
theorem dX7_lives_25 : decode cX7_lives 25 = .ok (.getfield 26, 3) := by decide +kernel
theorem dX7_lives_28 : decode cX7_lives 28 = .ok (.iload_n 1, 1) := by decide +kernel
theorem dX7_lives_29 : decode cX7_lives 29 = .ok (.invokevirtual 214, 3) := by decide +kernel
theorem dX7_lives_32 : decode cX7_lives 32 = .ok (.goto 5, 3) := by decide +kernel
theorem dX7_lives_35 : decode cX7_lives 35 = .ok (.ldc 67, 2) := by decide +kernel
theorem dX7_lives_37 : decode cX7_lives 37 = .ok (.ireturn, 1) := by decide +kernel
theorem dX7_dies_0 : decode cX7_dies 0 = .ok (.aload_n 0, 1) := by decide +kernel
theorem dX7_dies_1 : decode cX7_dies 1 = .ok (.getfield 26, 3) := by decide +kernel
theorem dX7_dies_4 : decode cX7_dies 4 = .ok (.iload_n 1, 1) := by decide +kernel
theorem dX7_dies_5 : decode cX7_dies 5 = .ok (.invokevirtual 157, 3) := by decide +kernel
theorem dX7_dies_8 : decode cX7_dies 8 = .ok (.ifCond .eq 18, 3) := by decide +kernel
theorem dX7_dies_11 : decode cX7_dies 11 = .ok (.aload_n 0, 1) := by decide +kernel
theorem dX7_dies_12 : decode cX7_dies 12 = .ok (.getfield 49, 3) := by decide +kernel
theorem dX7_dies_15 : decode cX7_dies 15 = .ok (.aload_n 0, 1) := by decide +kernel
theorem dX7_dies_16 : decode cX7_dies 16 = .ok (.getfield 26, 3) := by decide +kernel
theorem dX7_dies_19 : decode cX7_dies 19 = .ok (.iload_n 1, 1) := by decide +kernel
theorem dX7_dies_20 : decode cX7_dies 20 = .ok (.invokevirtual 217, 3) := by decide +kernel
theorem dX7_dies_23 : decode cX7_dies 23 = .ok (.goto 5, 3) := by decide +kernel
theorem dX7_dies_26 : decode cX7_dies 26 = .ok (.ldc 67, 2) := by decide +kernel
theorem dX7_dies_28 : decode cX7_dies 28 = .ok (.ireturn, 1) := by decide +kernel
theorem dX7_first_0 : decode cX7_first 0 = .ok (.aload_n 0, 1) := by decide +kernel
theorem dX7_first_1 : decode cX7_first 1 = .ok (.getfield 26, 3) := by decide +kernel
theorem dX7_first_4 : decode cX7_first 4 = .ok (.getfield 139, 3) := by decide +kernel
theorem dX7_first_7 : decode cX7_first 7 = .ok (.ifCond .ne 6, 3) := by decide +kernel
theorem dX7_first_10 : decode cX7_first 10 = .ok (.ldc 143, 2) := by decide +kernel
theorem dX7_first_12 : decode cX7_first 12 = .ok (.ireturn, 1) := by decide +kernel
theorem dX7_first_13 : decode cX7_first 13 = .ok (.iload_n 1, 1) := by decide +kernel
theorem dX7_first_14 : decode cX7_first 14 = .ok (.iconst 0, 1) := by decide +kernel
theorem dX7_first_15 : decode cX7_first 15 = .ok (.iconst 1, 1) := by decide +kernel
theorem dX7_first_16 : decode cX7_first 16 = .ok (.invokestatic 101, 3) := by decide +kernel
theorem dX7_first_19 : decode cX7_first 19 = .ok (.ifCond .ne 6, 3) := by decide +kernel
theorem dX7_first_22 : decode cX7_first 22 = .ok (.ldc 67, 2) := by decide +kernel
theorem dX7_first_24 : decode cX7_first 24 = .ok (.ireturn, 1) := by decide +kernel
theorem dX7_first_25 : decode cX7_first 25 = .ok (.aload_n 0, 1) := by decide +kernel
theorem dX7_first_26 : decode cX7_first 26 = .ok (.getfield 49, 3) := by decide +kernel
theorem dX7_first_29 : decode cX7_first 29 = .ok (.aload_n 0, 1) := by decide +kernel
theorem dX7_first_30 : decode cX7_first 30 = .ok (.getfield 26, 3) := by decide +kernel
theorem dX7_first_33 : decode cX7_first 33 = .ok (.invokevirtual 220, 3) := by decide +kernel
theorem dX7_first_36 : decode cX7_first 36 = .ok (.istore_n 2, 1) := by decide +kernel
theorem dX7_first_37 : decode cX7_first 37 = .ok (.iload_n 1, 1) := by decide +kernel
theorem dX7_first_38 : decode cX7_first 38 = .ok (.ifCond .eq 9, 3) := by decide +kernel
theorem dX7_first_41 : decode cX7_first 41 = .ok (.iload_n 2, 1) := by decide +kernel
theorem dX7_first_42 : decode cX7_first 42 = .ok (.ldc 224, 2) := by decide +kernel
theorem dX7_first_44 : decode cX7_first 44 = .ok (.if_icmp .ne 7, 3) := by decide +kernel
theorem dX7_first_47 : decode cX7_first 47 = .ok (.iload_n 2, 1) := by decide +kernel
theorem dX7_first_48 : decode cX7_first 48 = .ok (.goto 15, 3) := by decide +kernel
theorem dX7_first_51 : decode cX7_first 51 = .ok (.aload_n 0, 1) := by decide +kernel
theorem dX7_first_52 : decode cX7_first 52 = .ok (.getfield 49, 3) := by decide +kernel
theorem dX7_first_55 : decode cX7_first 55 = .ok (.aload_n 0, 1) := by decide +kernel
theorem dX7_first_56 : decode cX7_first 56 = .ok (.getfield 26, 3) := by decide +kernel
theorem dX7_first_59 : decode cX7_first 59 = .ok (.iload_n 2, 1) := by decide +kernel
theorem dX7_first_60 : decode cX7_first 60 = .ok (.invokevirtual 217, 3) := by decide +kernel
theorem dX7_first_63 : decode cX7_first 63 = .ok (.ireturn, 1) := by decide +kernel
theorem dX7_hanging_0 : decode cX7_hanging 0 = .ok (.aload_n 0, 1) := by decide +kernel
theorem dX7_hanging_1 : decode cX7_hanging 1 = .ok (.getfield 26, 3) := by decide +kernel
theorem dX7_hanging_4 : decode cX7_hanging 4 = .ok (.getfield 139, 3) := by decide +kernel
theorem dX7_hanging_7 : decode cX7_hanging 7 = .ok (.ifCond .ne 6, 3) := by decide +kernel
theorem dX7_hanging_10 : decode cX7_hanging 10 = .ok (.ldc 143, 2) := by decide +kernel
theorem dX7_hanging_12 : decode cX7_hanging 12 = .ok (.ireturn, 1) := by decide +kernel
theorem dX7_hanging_13 : decode cX7_hanging 13 = .ok (.iload_n 1, 1) := by decide +kernel
theorem dX7_hanging_14 : decode cX7_hanging 14 = .ok (.invokestatic 207, 3) := by decide +kernel
theorem dX7_hanging_17 : decode cX7_hanging 17 = .ok (.ifCond .eq 13, 3) := by decide +kernel
theorem dX7_hanging_20 : decode cX7_hanging 20 = .ok (.iload_n 2, 1) := by decide +kernel
theorem dX7_hanging_21 : decode cX7_hanging 21 = .ok (.bipush (-2), 2) := by decide +kernel
theorem dX7_hanging_23 : decode cX7_hanging 23 = .ok (.iconst 4, 1) := by decide +kernel
theorem dX7_hanging_24 : decode cX7_hanging 24 = .ok (.invokestatic 101, 3) := by decide +kernel
theorem dX7_hanging_27 : decode cX7_hanging 27 = .ok (.ifCond .ne 6, 3) := by decide +kernel
theorem dX7_hanging_30 : decode cX7_hanging 30 = .ok (.ldc 67, 2) := by decide +kernel
theorem dX7_hanging_32 : decode cX7_hanging 32 = .ok (.ireturn, 1) := by decide +kernel
theorem dX7_hanging_33 : decode cX7_hanging 33 = .ok (.aload_n 0, 1) := by decide +kernel
theorem dX7_hanging_34 : decode cX7_hanging 34 = .ok (.getfield 49, 3) := by decide +kernel
theorem dX7_hanging_37 : decode cX7_hanging 37 = .ok (.aload_n 0, 1) := by decide +kernel
theorem dX7_hanging_38 : decode cX7_hanging 38 = .ok (.getfield 26, 3) := by decide +kernel
theorem dX7_hanging_41 : decode cX7_hanging 41 = .ok (.iload_n 1, 1) := by decide +kernel
theorem dX7_hanging_42 : decode cX7_hanging 42 = .ok (.invokevirtual 225, 3) := by decide +kernel
theorem dX7_hanging_45 : decode cX7_hanging 45 = .ok (.iload_n 2, 1) := by decide +kernel
theorem dX7_hanging_46 : decode cX7_hanging 46 = .ok (.lookupswitch 42 #[(-2, 34), (-1, 26)], 26) := by decide +kernel
theorem dX7_hanging_72 : decode cX7_hanging 72 = .ok (.aload_n 0, 1) := by decide +kernel
theorem dX7_hanging_73 : decode cX7_hanging 73 = .ok (.getfield 49, 3) := by decide +kernel
theorem dX7_hanging_76 : decode cX7_hanging 76 = .ok (.getfield 229, 3) := by decide +kernel
theorem dX7_hanging_79 : decode cX7_hanging 79 = .ok (.ireturn, 1) := by decide +kernel
theorem dX7_hanging_80 : decode cX7_hanging 80 = .ok (.aload_n 0, 1) := by decide +kernel
theorem dX7_hanging_81 : decode cX7_hanging 81 = .ok (.getfield 49, 3) := by decide +kernel
theorem dX7_hanging_84 : decode cX7_hanging 84 = .ok (.getfield 232, 3) := by decide +kernel
theorem dX7_hanging_87 : decode cX7_hanging 87 = .ok (.ireturn, 1) := by decide +kernel
theorem dX7_hanging_88 : decode cX7_hanging 88 = .ok (.aload_n 0, 1) := by decide +kernel
theorem dX7_hanging_89 : decode cX7_hanging 89 = .ok (.getfield 26, 3) := by decide +kernel
theorem dX7_hanging_92 : decode cX7_hanging 92 = .ok (.iload_n 2, 1) := by decide +kernel
theorem dX7_hanging_93 : decode cX7_hanging 93 = .ok (.invokevirtual 157, 3) := by decide +kernel
theorem dX7_hanging_96 : decode cX7_hanging 96 = .ok (.ifCond .eq 15, 3) := by decide +kernel
theorem dX7_hanging_99 : decode cX7_hanging 99 = .ok (.aload_n 0, 1) := by decide +kernel
theorem dX7_hanging_100 : decode cX7_hanging 100 = .ok (.getfield 49, 3) := by decide +kernel
theorem dX7_hanging_103 : decode cX7_hanging 103 = .ok (.getfield 235, 3) := by decide +kernel
theorem dX7_hanging_106 : decode cX7_hanging 106 = .ok (.iload_n 2, 1) := by decide +kernel
theorem dX7_hanging_107 : decode cX7_hanging 107 = .ok (.iaload, 1) := by decide +kernel
theorem dX7_hanging_108 : decode cX7_hanging 108 = .ok (.goto 5, 3) := by decide +kernel
theorem dX7_hanging_111 : decode cX7_hanging 111 = .ok (.ldc 224, 2) := by decide +kernel
theorem dX7_hanging_113 : decode cX7_hanging 113 = .ok (.ireturn, 1) := by decide +kernel
theorem dX7_save_0 : decode cX7_save 0 = .ok (.aload_n 0, 1) := by decide +kernel
theorem dX7_save_1 : decode cX7_save 1 = .ok (.getfield 26, 3) := by decide +kernel
theorem dX7_save_4 : decode cX7_save 4 = .ok (.getfield 139, 3) := by decide +kernel
theorem dX7_save_7 : decode cX7_save 7 = .ok (.ifCond .ne 6, 3) := by decide +kernel
theorem dX7_save_10 : decode cX7_save 10 = .ok (.ldc 143, 2) := by decide +kernel
theorem dX7_save_12 : decode cX7_save 12 = .ok (.ireturn, 1) := by decide +kernel
theorem dX7_save_13 : decode cX7_save 13 = .ok (.iload_n 1, 1) := by decide +kernel
theorem dX7_save_14 : decode cX7_save 14 = .ok (.iconst 0, 1) := by decide +kernel
theorem dX7_save_15 : decode cX7_save 15 = .ok (.iconst 1, 1) := by decide +kernel
theorem dX7_save_16 : decode cX7_save 16 = .ok (.aload_n 0, 1) := by decide +kernel
theorem dX7_save_17 : decode cX7_save 17 = .ok (.getfield 26, 3) := by decide +kernel
theorem dX7_save_20 : decode cX7_save 20 = .ok (.getfield 136, 3) := by decide +kernel
theorem dX7_save_23 : decode cX7_save 23 = .ok (.ishl, 1) := by decide +kernel
theorem dX7_save_24 : decode cX7_save 24 = .ok (.iconst 1, 1) := by decide +kernel
theorem dX7_save_25 : decode cX7_save 25 = .ok (.isub, 1) := by decide +kernel
theorem dX7_save_26 : decode cX7_save 26 = .ok (.invokestatic 101, 3) := by decide +kernel
theorem dX7_save_29 : decode cX7_save 29 = .ok (.ifCond .eq 10, 3) := by decide +kernel
theorem dX7_save_32 : decode cX7_save 32 = .ok (.iload_n 2, 1) := by decide +kernel
theorem dX7_save_33 : decode cX7_save 33 = .ok (.invokestatic 207, 3) := by decide +kernel
theorem dX7_save_36 : decode cX7_save 36 = .ok (.ifCond .ne 6, 3) := by decide +kernel
theorem dX7_save_39 : decode cX7_save 39 = .ok (.ldc 67, 2) := by decide +kernel
theorem dX7_save_41 : decode cX7_save 41 = .ok (.ireturn, 1) := by decide +kernel
theorem dX7_save_42 : decode cX7_save 42 = .ok (.aload_n 0, 1) := by decide +kernel
theorem dX7_save_43 : decode cX7_save 43 = .ok (.getfield 49, 3) := by decide +kernel
theorem dX7_save_46 : decode cX7_save 46 = .ok (.aload_n 0, 1) := by decide +kernel
theorem dX7_save_47 : decode cX7_save 47 = .ok (.getfield 26, 3) := by decide +kernel
theorem dX7_save_50 : decode cX7_save 50 = .ok (.iload_n 1, 1) := by decide +kernel
theorem dX7_save_51 : decode cX7_save 51 = .ok (.iload_n 2, 1) := by decide +kernel
theorem dX7_save_52 : decode cX7_save 52 = .ok (.invokevirtual 238, 3) := by decide +kernel
theorem dX7_save_55 : decode cX7_save 55 = .ok (.ireturn, 1) := by decide +kernel
theorem dX7_dark_0 : decode cX7_dark 0 = .ok (.aload_n 0, 1) := by decide +kernel
theorem dX7_dark_1 : decode cX7_dark 1 = .ok (.getfield 26, 3) := by decide +kernel
theorem dX7_dark_4 : decode cX7_dark 4 = .ok (.getfield 139, 3) := by decide +kernel
theorem dX7_dark_7 : decode cX7_dark 7 = .ok (.ifCond .ne 6, 3) := by decide +kernel
theorem dX7_dark_10 : decode cX7_dark 10 = .ok (.ldc 143, 2) := by decide +kernel
theorem dX7_dark_12 : decode cX7_dark 12 = .ok (.ireturn, 1) := by decide +kernel
theorem dX7_dark_13 : decode cX7_dark 13 = .ok (.iload_n 1, 1) := by decide +kernel
theorem dX7_dark_14 : decode cX7_dark 14 = .ok (.invokestatic 207, 3) := by decide +kernel
theorem dX7_dark_17 : decode cX7_dark 17 = .ok (.ifCond .eq 12, 3) := by decide +kernel
theorem dX7_dark_20 : decode cX7_dark 20 = .ok (.iload_n 2, 1) := by decide +kernel
theorem dX7_dark_21 : decode cX7_dark 21 = .ok (.iconst 0, 1) := by decide +kernel
theorem dX7_dark_22 : decode cX7_dark 22 = .ok (.iconst 1, 1) := by decide +kernel
theorem dX7_dark_23 : decode cX7_dark 23 = .ok (.invokestatic 101, 3) := by decide +kernel
theorem dX7_dark_26 : decode cX7_dark 26 = .ok (.ifCond .ne 6, 3) := by decide +kernel
theorem dX7_dark_29 : decode cX7_dark 29 = .ok (.ldc 67, 2) := by decide +kernel
theorem dX7_dark_31 : decode cX7_dark 31 = .ok (.ireturn, 1) := by decide +kernel
theorem dX7_dark_32 : decode cX7_dark 32 = .ok (.aload_n 0, 1) := by decide +kernel
theorem dX7_dark_33 : decode cX7_dark 33 = .ok (.getfield 49, 3) := by decide +kernel
theorem dX7_dark_36 : decode cX7_dark 36 = .ok (.aload_n 0, 1) := by decide +kernel
theorem dX7_dark_37 : decode cX7_dark 37 = .ok (.getfield 26, 3) := by decide +kernel
theorem dX7_dark_40 : decode cX7_dark 40 = .ok (.iload_n 1, 1) := by decide +kernel
theorem dX7_dark_41 : decode cX7_dark 41 = .ok (.invokevirtual 241, 3) := by decide +kernel
theorem dX7_dark_44 : decode cX7_dark 44 = .ok (.istore_n 3, 1) := by decide +kernel
theorem dX7_dark_45 : decode cX7_dark 45 = .ok (.iload_n 2, 1) := by decide +kernel
theorem dX7_dark_46 : decode cX7_dark 46 = .ok (.ifCond .ne 7, 3) := by decide +kernel
theorem dX7_dark_49 : decode cX7_dark 49 = .ok (.iload_n 3, 1) := by decide +kernel
theorem dX7_dark_50 : decode cX7_dark 50 = .ok (.goto 16, 3) := by decide +kernel
theorem dX7_dark_53 : decode cX7_dark 53 = .ok (.aload_n 0, 1) := by decide +kernel
theorem dX7_dark_54 : decode cX7_dark 54 = .ok (.getfield 49, 3) := by decide +kernel
theorem dX7_dark_57 : decode cX7_dark 57 = .ok (.aload_n 0, 1) := by decide +kernel
theorem dX7_dark_58 : decode cX7_dark 58 = .ok (.getfield 26, 3) := by decide +kernel
theorem dX7_dark_61 : decode cX7_dark 61 = .ok (.iload_n 3, 1) := by decide +kernel
theorem dX7_dark_62 : decode cX7_dark 62 = .ok (.iload_n 1, 1) := by decide +kernel
theorem dX7_dark_63 : decode cX7_dark 63 = .ok (.invokevirtual 244, 3) := by decide +kernel
theorem dX7_dark_66 : decode cX7_dark 66 = .ok (.ireturn, 1) := by decide +kernel
theorem dX7_fits_0 : decode cX7_fits 0 = .ok (.aload_n 0, 1) := by decide +kernel
theorem dX7_fits_1 : decode cX7_fits 1 = .ok (.getfield 26, 3) := by decide +kernel
theorem dX7_fits_4 : decode cX7_fits 4 = .ok (.iload_n 1, 1) := by decide +kernel
theorem dX7_fits_5 : decode cX7_fits 5 = .ok (.invokevirtual 157, 3) := by decide +kernel
theorem dX7_fits_8 : decode cX7_fits 8 = .ok (.ifCond .eq 14, 3) := by decide +kernel
theorem dX7_fits_11 : decode cX7_fits 11 = .ok (.aload_n 0, 1) := by decide +kernel
theorem dX7_fits_12 : decode cX7_fits 12 = .ok (.getfield 10, 3) := by decide +kernel
theorem dX7_fits_15 : decode cX7_fits 15 = .ok (.iload_n 2, 1) := by decide +kernel
theorem dX7_fits_16 : decode cX7_fits 16 = .ok (.invokevirtual 60, 3) := by decide +kernel
theorem dX7_fits_19 : decode cX7_fits 19 = .ok (.ifCond .ne 6, 3) := by decide +kernel
theorem dX7_fits_22 : decode cX7_fits 22 = .ok (.ldc 67, 2) := by decide +kernel
theorem dX7_fits_24 : decode cX7_fits 24 = .ok (.ireturn, 1) := by decide +kernel
theorem dX7_fits_25 : decode cX7_fits 25 = .ok (.iload 4, 2) := by decide +kernel
theorem dX7_fits_27 : decode cX7_fits 27 = .ok (.iconst 1, 1) := by decide +kernel
theorem dX7_fits_28 : decode cX7_fits 28 = .ok (.bipush 16, 2) := by decide +kernel
theorem dX7_fits_30 : decode cX7_fits 30 = .ok (.invokestatic 101, 3) := by decide +kernel
theorem dX7_fits_33 : decode cX7_fits 33 = .ok (.ifCond .eq 13, 3) := by decide +kernel
theorem dX7_fits_36 : decode cX7_fits 36 = .ok (.iload 5, 2) := by decide +kernel
theorem dX7_fits_38 : decode cX7_fits 38 = .ok (.iconst 0, 1) := by decide +kernel
theorem dX7_fits_39 : decode cX7_fits 39 = .ok (.iconst 3, 1) := by decide +kernel
theorem dX7_fits_40 : decode cX7_fits 40 = .ok (.invokestatic 101, 3) := by decide +kernel
theorem dX7_fits_43 : decode cX7_fits 43 = .ok (.ifCond .ne 6, 3) := by decide +kernel
theorem dX7_fits_46 : decode cX7_fits 46 = .ok (.ldc 67, 2) := by decide +kernel
theorem dX7_fits_48 : decode cX7_fits 48 = .ok (.ireturn, 1) := by decide +kernel
theorem dX7_fits_49 : decode cX7_fits 49 = .ok (.aload_n 0, 1) := by decide +kernel
theorem dX7_fits_50 : decode cX7_fits 50 = .ok (.getfield 10, 3) := by decide +kernel
theorem dX7_fits_53 : decode cX7_fits 53 = .ok (.iload_n 2, 1) := by decide +kernel
theorem dX7_fits_54 : decode cX7_fits 54 = .ok (.invokevirtual 79, 3) := by decide +kernel
theorem dX7_fits_57 : decode cX7_fits 57 = .ok (.ifCond .eq 9, 3) := by decide +kernel
theorem dX7_fits_60 : decode cX7_fits 60 = .ok (.aload_n 0, 1) := by decide +kernel
theorem dX7_fits_61 : decode cX7_fits 61 = .ok (.iconst 1, 1) := by decide +kernel
theorem dX7_fits_62 : decode cX7_fits 62 = .ok (.invokevirtual 68, 3) := by decide +kernel
theorem dX7_fits_65 : decode cX7_fits 65 = .ok (.ireturn, 1) := by decide +kernel
theorem dX7_fits_66 : decode cX7_fits 66 = .ok (.aload_n 0, 1) := by decide +kernel
theorem dX7_fits_67 : decode cX7_fits 67 = .ok (.getfield 10, 3) := by decide +kernel
theorem dX7_fits_70 : decode cX7_fits 70 = .ok (.iload_n 2, 1) := by decide +kernel
theorem dX7_fits_71 : decode cX7_fits 71 = .ok (.iload_n 3, 1) := by decide +kernel
theorem dX7_fits_72 : decode cX7_fits 72 = .ok (.iload 4, 2) := by decide +kernel
theorem dX7_fits_74 : decode cX7_fits 74 = .ok (.invokevirtual 82, 3) := by decide +kernel
theorem dX7_fits_77 : decode cX7_fits 77 = .ok (.ifCond .ne 9, 3) := by decide +kernel
theorem dX7_fits_80 : decode cX7_fits 80 = .ok (.aload_n 0, 1) := by decide +kernel
theorem dX7_fits_81 : decode cX7_fits 81 = .ok (.iconst 2, 1) := by decide +kernel
theorem dX7_fits_82 : decode cX7_fits 82 = .ok (.invokevirtual 68, 3) := by decide +kernel
theorem dX7_fits_85 : decode cX7_fits 85 = .ok (.ireturn, 1) := by decide +kernel
theorem dX7_fits_86 : decode cX7_fits 86 = .ok (.aload_n 0, 1) := by decide +kernel
theorem dX7_fits_87 : decode cX7_fits 87 = .ok (.getfield 10, 3) := by decide +kernel
theorem dX7_fits_90 : decode cX7_fits 90 = .ok (.iload_n 2, 1) := by decide +kernel
theorem dX7_fits_91 : decode cX7_fits 91 = .ok (.iload_n 3, 1) := by decide +kernel
theorem dX7_fits_92 : decode cX7_fits 92 = .ok (.iload 4, 2) := by decide +kernel
theorem dX7_fits_94 : decode cX7_fits 94 = .ok (.aload_n 0, 1) := by decide +kernel
theorem dX7_fits_95 : decode cX7_fits 95 = .ok (.getfield 49, 3) := by decide +kernel
theorem dX7_fits_98 : decode cX7_fits 98 = .ok (.getfield 247, 3) := by decide +kernel
theorem dX7_fits_101 : decode cX7_fits 101 = .ok (.invokevirtual 250, 3) := by decide +kernel
theorem dX7_fits_104 : decode cX7_fits 104 = .ok (.iload 5, 2) := by decide +kernel
theorem dX7_fits_106 : decode cX7_fits 106 = .ok (.tableswitch 83 0 2 #[26, 45, 64], 26) := by decide +kernel
theorem dX7_fits_132 : decode cX7_fits 132 = .ok (.aload_n 0, 1) := by decide +kernel
theorem dX7_fits_133 : decode cX7_fits 133 = .ok (.aload_n 0, 1) := by decide +kernel
theorem dX7_fits_134 : decode cX7_fits 134 = .ok (.getfield 49, 3) := by decide +kernel
theorem dX7_fits_137 : decode cX7_fits 137 = .ok (.aload_n 0, 1) := by decide +kernel
theorem dX7_fits_138 : decode cX7_fits 138 = .ok (.getfield 26, 3) := by decide +kernel
theorem dX7_fits_141 : decode cX7_fits 141 = .ok (.iload_n 1, 1) := by decide +kernel
theorem dX7_fits_142 : decode cX7_fits 142 = .ok (.iload 4, 2) := by decide +kernel
theorem dX7_fits_144 : decode cX7_fits 144 = .ok (.invokevirtual 254, 3) := by decide +kernel
theorem dX7_fits_147 : decode cX7_fits 147 = .ok (.invokevirtual 76, 3) := by decide +kernel
theorem dX7_fits_150 : decode cX7_fits 150 = .ok (.ireturn, 1) := by decide +kernel
theorem dX7_fits_151 : decode cX7_fits 151 = .ok (.aload_n 0, 1) := by decide +kernel
theorem dX7_fits_152 : decode cX7_fits 152 = .ok (.aload_n 0, 1) := by decide +kernel
theorem dX7_fits_153 : decode cX7_fits 153 = .ok (.getfield 49, 3) := by decide +kernel
theorem dX7_fits_156 : decode cX7_fits 156 = .ok (.aload_n 0, 1) := by decide +kernel
theorem dX7_fits_157 : decode cX7_fits 157 = .ok (.getfield 26, 3) := by decide +kernel
theorem dX7_fits_160 : decode cX7_fits 160 = .ok (.iload_n 1, 1) := by decide +kernel
theorem dX7_fits_161 : decode cX7_fits 161 = .ok (.iload 4, 2) := by decide +kernel
theorem dX7_fits_163 : decode cX7_fits 163 = .ok (.invokevirtual 257, 3) := by decide +kernel
theorem dX7_fits_166 : decode cX7_fits 166 = .ok (.invokevirtual 76, 3) := by decide +kernel
theorem dX7_fits_169 : decode cX7_fits 169 = .ok (.ireturn, 1) := by decide +kernel
theorem dX7_fits_170 : decode cX7_fits 170 = .ok (.aload_n 0, 1) := by decide +kernel
theorem dX7_fits_171 : decode cX7_fits 171 = .ok (.aload_n 0, 1) := by decide +kernel
theorem dX7_fits_172 : decode cX7_fits 172 = .ok (.getfield 49, 3) := by decide +kernel
theorem dX7_fits_175 : decode cX7_fits 175 = .ok (.aload_n 0, 1) := by decide +kernel
theorem dX7_fits_176 : decode cX7_fits 176 = .ok (.getfield 26, 3) := by decide +kernel
theorem dX7_fits_179 : decode cX7_fits 179 = .ok (.iload_n 1, 1) := by decide +kernel
theorem dX7_fits_180 : decode cX7_fits 180 = .ok (.iload 4, 2) := by decide +kernel
theorem dX7_fits_182 : decode cX7_fits 182 = .ok (.invokevirtual 260, 3) := by decide +kernel
theorem dX7_fits_185 : decode cX7_fits 185 = .ok (.invokevirtual 76, 3) := by decide +kernel
theorem dX7_fits_188 : decode cX7_fits 188 = .ok (.ireturn, 1) := by decide +kernel
theorem dX7_fits_189 : decode cX7_fits 189 = .ok (.aload_n 0, 1) := by decide +kernel
theorem dX7_fits_190 : decode cX7_fits 190 = .ok (.aload_n 0, 1) := by decide +kernel
theorem dX7_fits_191 : decode cX7_fits 191 = .ok (.getfield 49, 3) := by decide +kernel
theorem dX7_fits_194 : decode cX7_fits 194 = .ok (.aload_n 0, 1) := by decide +kernel
theorem dX7_fits_195 : decode cX7_fits 195 = .ok (.getfield 26, 3) := by decide +kernel
theorem dX7_fits_198 : decode cX7_fits 198 = .ok (.iload_n 1, 1) := by decide +kernel
theorem dX7_fits_199 : decode cX7_fits 199 = .ok (.iload 4, 2) := by decide +kernel
theorem dX7_fits_201 : decode cX7_fits 201 = .ok (.invokevirtual 263, 3) := by decide +kernel
theorem dX7_fits_204 : decode cX7_fits 204 = .ok (.invokevirtual 76, 3) := by decide +kernel
theorem dX7_fits_207 : decode cX7_fits 207 = .ok (.ireturn, 1) := by decide +kernel
theorem dX7_thieves_0 : decode cX7_thieves 0 = .ok (.aload_n 0, 1) := by decide +kernel
theorem dX7_thieves_1 : decode cX7_thieves 1 = .ok (.getfield 26, 3) := by decide +kernel
theorem dX7_thieves_4 : decode cX7_thieves 4 = .ok (.getfield 139, 3) := by decide +kernel
theorem dX7_thieves_7 : decode cX7_thieves 7 = .ok (.ifCond .ne 6, 3) := by decide +kernel
theorem dX7_thieves_10 : decode cX7_thieves 10 = .ok (.ldc 143, 2) := by decide +kernel
theorem dX7_thieves_12 : decode cX7_thieves 12 = .ok (.ireturn, 1) := by decide +kernel
theorem dX7_thieves_13 : decode cX7_thieves 13 = .ok (.iload_n 1, 1) := by decide +kernel
theorem dX7_thieves_14 : decode cX7_thieves 14 = .ok (.iconst 0, 1) := by decide +kernel
theorem dX7_thieves_15 : decode cX7_thieves 15 = .ok (.iconst 5, 1) := by decide +kernel
theorem dX7_thieves_16 : decode cX7_thieves 16 = .ok (.invokestatic 101, 3) := by decide +kernel
theorem dX7_thieves_19 : decode cX7_thieves 19 = .ok (.ifCond .eq 30, 3) := by decide +kernel
theorem dX7_thieves_22 : decode cX7_thieves 22 = .ok (.iload_n 2, 1) := by decide +kernel
theorem dX7_thieves_23 : decode cX7_thieves 23 = .ok (.invokestatic 207, 3) := by decide +kernel
theorem dX7_thieves_26 : decode cX7_thieves 26 = .ok (.ifCond .eq 23, 3) := by decide +kernel
theorem dX7_thieves_29 : decode cX7_thieves 29 = .ok (.iload_n 3, 1) := by decide +kernel
theorem dX7_thieves_30 : decode cX7_thieves 30 = .ok (.iconst 0, 1) := by decide +kernel
theorem dX7_thieves_31 : decode cX7_thieves 31 = .ok (.bipush 10, 2) := by decide +kernel
theorem dX7_thieves_33 : decode cX7_thieves 33 = .ok (.invokestatic 101, 3) := by decide +kernel
theorem dX7_thieves_36 : decode cX7_thieves 36 = .ok (.ifCond .eq 13, 3) := by decide +kernel
theorem dX7_thieves_39 : decode cX7_thieves 39 = .ok (.iload 4, 2) := by decide +kernel
theorem dX7_thieves_41 : decode cX7_thieves 41 = .ok (.iconst 0, 1) := by decide +kernel
theorem dX7_thieves_42 : decode cX7_thieves 42 = .ok (.iconst 1, 1) := by decide +kernel
theorem dX7_thieves_43 : decode cX7_thieves 43 = .ok (.invokestatic 101, 3) := by decide +kernel
theorem dX7_thieves_46 : decode cX7_thieves 46 = .ok (.ifCond .ne 6, 3) := by decide +kernel
theorem dX7_thieves_49 : decode cX7_thieves 49 = .ok (.ldc 67, 2) := by decide +kernel
theorem dX7_thieves_51 : decode cX7_thieves 51 = .ok (.ireturn, 1) := by decide +kernel
theorem dX7_thieves_52 : decode cX7_thieves 52 = .ok (.aload_n 0, 1) := by decide +kernel
theorem dX7_thieves_53 : decode cX7_thieves 53 = .ok (.getfield 49, 3) := by decide +kernel
theorem dX7_thieves_56 : decode cX7_thieves 56 = .ok (.aload_n 0, 1) := by decide +kernel
theorem dX7_thieves_57 : decode cX7_thieves 57 = .ok (.getfield 26, 3) := by decide +kernel
theorem dX7_thieves_60 : decode cX7_thieves 60 = .ok (.iload_n 2, 1) := by decide +kernel
theorem dX7_thieves_61 : decode cX7_thieves 61 = .ok (.invokevirtual 214, 3) := by decide +kernel
theorem dX7_thieves_64 : decode cX7_thieves 64 = .ok (.invokestatic 266, 3) := by decide +kernel
theorem dX7_thieves_67 : decode cX7_thieves 67 = .ok (.istore 5, 2) := by decide +kernel
theorem dX7_thieves_69 : decode cX7_thieves 69 = .ok (.aload_n 0, 1) := by decide +kernel
theorem dX7_thieves_70 : decode cX7_thieves 70 = .ok (.getfield 49, 3) := by decide +kernel
theorem dX7_thieves_73 : decode cX7_thieves 73 = .ok (.iload_n 1, 1) := by decide +kernel
theorem dX7_thieves_74 : decode cX7_thieves 74 = .ok (.iload 5, 2) := by decide +kernel
theorem dX7_thieves_76 : decode cX7_thieves 76 = .ok (.iload_n 3, 1) := by decide +kernel
theorem dX7_thieves_77 : decode cX7_thieves 77 = .ok (.invokevirtual 271, 3) := by decide +kernel
theorem dX7_thieves_80 : decode cX7_thieves 80 = .ok (.istore 6, 2) := by decide +kernel
theorem dX7_thieves_82 : decode cX7_thieves 82 = .ok (.aload_n 0, 1) := by decide +kernel
theorem dX7_thieves_83 : decode cX7_thieves 83 = .ok (.getfield 49, 3) := by decide +kernel
theorem dX7_thieves_86 : decode cX7_thieves 86 = .ok (.bipush 10, 2) := by decide +kernel
theorem dX7_thieves_88 : decode cX7_thieves 88 = .ok (.iload 5, 2) := by decide +kernel
theorem dX7_thieves_90 : decode cX7_thieves 90 = .ok (.invokevirtual 274, 3) := by decide +kernel
theorem dX7_thieves_93 : decode cX7_thieves 93 = .ok (.istore 7, 2) := by decide +kernel
theorem dX7_thieves_95 : decode cX7_thieves 95 = .ok (.aload_n 0, 1) := by decide +kernel
theorem dX7_thieves_96 : decode cX7_thieves 96 = .ok (.getfield 49, 3) := by decide +kernel
theorem dX7_thieves_99 : decode cX7_thieves 99 = .ok (.iload 6, 2) := by decide +kernel
theorem dX7_thieves_101 : decode cX7_thieves 101 = .ok (.iload 7, 2) := by decide +kernel
theorem dX7_thieves_103 : decode cX7_thieves 103 = .ok (.invokevirtual 277, 3) := by decide +kernel
theorem dX7_thieves_106 : decode cX7_thieves 106 = .ok (.istore 8, 2) := by decide +kernel
theorem dX7_thieves_108 : decode cX7_thieves 108 = .ok (.iload 4, 2) := by decide +kernel
theorem dX7_thieves_110 : decode cX7_thieves 110 = .ok (.ifCond .ne 8, 3) := by decide +kernel
theorem dX7_thieves_113 : decode cX7_thieves 113 = .ok (.iload 6, 2) := by decide +kernel
theorem dX7_thieves_115 : decode cX7_thieves 115 = .ok (.goto 5, 3) := by decide +kernel
theorem dX7_thieves_118 : decode cX7_thieves 118 = .ok (.iload 7, 2) := by decide +kernel
theorem dX7_thieves_120 : decode cX7_thieves 120 = .ok (.iload 8, 2) := by decide +kernel
theorem dX7_thieves_122 : decode cX7_thieves 122 = .ok (.idiv, 1) := by decide +kernel
theorem dX7_thieves_123 : decode cX7_thieves 123 = .ok (.ireturn, 1) := by decide +kernel
theorem dX7_drawn_0 : decode cX7_drawn 0 = .ok (.aload_n 0, 1) := by decide +kernel
theorem dX7_drawn_1 : decode cX7_drawn 1 = .ok (.getfield 26, 3) := by decide +kernel
theorem dX7_drawn_4 : decode cX7_drawn 4 = .ok (.getfield 139, 3) := by decide +kernel
theorem dX7_drawn_7 : decode cX7_drawn 7 = .ok (.ifCond .ne 6, 3) := by decide +kernel
theorem dX7_drawn_10 : decode cX7_drawn 10 = .ok (.ldc 143, 2) := by decide +kernel
theorem dX7_drawn_12 : decode cX7_drawn 12 = .ok (.ireturn, 1) := by decide +kernel
theorem dX7_drawn_13 : decode cX7_drawn 13 = .ok (.iload_n 1, 1) := by decide +kernel
theorem dX7_drawn_14 : decode cX7_drawn 14 = .ok (.invokestatic 207, 3) := by decide +kernel
theorem dX7_drawn_17 : decode cX7_drawn 17 = .ok (.ifCond .eq 23, 3) := by decide +kernel
theorem dX7_drawn_20 : decode cX7_drawn 20 = .ok (.iload_n 2, 1) := by decide +kernel
theorem dX7_drawn_21 : decode cX7_drawn 21 = .ok (.iconst 1, 1) := by decide +kernel
theorem dX7_drawn_22 : decode cX7_drawn 22 = .ok (.ldc_w 280, 3) := by decide +kernel
theorem dX7_drawn_25 : decode cX7_drawn 25 = .ok (.invokestatic 101, 3) := by decide +kernel
theorem dX7_drawn_28 : decode cX7_drawn 28 = .ok (.ifCond .eq 12, 3) := by decide +kernel
theorem dX7_drawn_31 : decode cX7_drawn 31 = .ok (.iload_n 3, 1) := by decide +kernel
theorem dX7_drawn_32 : decode cX7_drawn 32 = .ok (.iconst 0, 1) := by decide +kernel
theorem dX7_drawn_33 : decode cX7_drawn 33 = .ok (.iconst 1, 1) := by decide +kernel
theorem dX7_drawn_34 : decode cX7_drawn 34 = .ok (.invokestatic 101, 3) := by decide +kernel
theorem dX7_drawn_37 : decode cX7_drawn 37 = .ok (.ifCond .ne 6, 3) := by decide +kernel
theorem dX7_drawn_40 : decode cX7_drawn 40 = .ok (.ldc 67, 2) := by decide +kernel
theorem dX7_drawn_42 : decode cX7_drawn 42 = .ok (.ireturn, 1) := by decide +kernel
theorem dX7_drawn_43 : decode cX7_drawn 43 = .ok (.aload_n 0, 1) := by decide +kernel
theorem dX7_drawn_44 : decode cX7_drawn 44 = .ok (.getfield 49, 3) := by decide +kernel
theorem dX7_drawn_47 : decode cX7_drawn 47 = .ok (.aload_n 0, 1) := by decide +kernel
theorem dX7_drawn_48 : decode cX7_drawn 48 = .ok (.getfield 26, 3) := by decide +kernel
theorem dX7_drawn_51 : decode cX7_drawn 51 = .ok (.iload_n 1, 1) := by decide +kernel
theorem dX7_drawn_52 : decode cX7_drawn 52 = .ok (.iload_n 2, 1) := by decide +kernel
theorem dX7_drawn_53 : decode cX7_drawn 53 = .ok (.invokevirtual 281, 3) := by decide +kernel
theorem dX7_drawn_56 : decode cX7_drawn 56 = .ok (.iload_n 3, 1) := by decide +kernel
theorem dX7_drawn_57 : decode cX7_drawn 57 = .ok (.ifCond .ne 17, 3) := by decide +kernel
theorem dX7_drawn_60 : decode cX7_drawn 60 = .ok (.aload_n 0, 1) := by decide +kernel
theorem dX7_drawn_61 : decode cX7_drawn 61 = .ok (.getfield 49, 3) := by decide +kernel
theorem dX7_drawn_64 : decode cX7_drawn 64 = .ok (.aload_n 0, 1) := by decide +kernel
theorem dX7_drawn_65 : decode cX7_drawn 65 = .ok (.getfield 26, 3) := by decide +kernel
theorem dX7_drawn_68 : decode cX7_drawn 68 = .ok (.invokevirtual 285, 3) := by decide +kernel
theorem dX7_drawn_71 : decode cX7_drawn 71 = .ok (.goto 14, 3) := by decide +kernel
theorem dX7_drawn_74 : decode cX7_drawn 74 = .ok (.aload_n 0, 1) := by decide +kernel
theorem dX7_drawn_75 : decode cX7_drawn 75 = .ok (.getfield 49, 3) := by decide +kernel
theorem dX7_drawn_78 : decode cX7_drawn 78 = .ok (.aload_n 0, 1) := by decide +kernel
theorem dX7_drawn_79 : decode cX7_drawn 79 = .ok (.getfield 26, 3) := by decide +kernel
theorem dX7_drawn_82 : decode cX7_drawn 82 = .ok (.invokevirtual 288, 3) := by decide +kernel
theorem dX7_drawn_85 : decode cX7_drawn 85 = .ok (.ireturn, 1) := by decide +kernel
theorem dX7_image_0 : decode cX7_image 0 = .ok (.iload_n 1, 1) := by decide +kernel
theorem dX7_image_1 : decode cX7_image 1 = .ok (.iconst 0, 1) := by decide +kernel
theorem dX7_image_2 : decode cX7_image 2 = .ok (.iconst 1, 1) := by decide +kernel
theorem dX7_image_3 : decode cX7_image 3 = .ok (.invokestatic 101, 3) := by decide +kernel
theorem dX7_image_6 : decode cX7_image 6 = .ok (.ifCond .ne 6, 3) := by decide +kernel
theorem dX7_image_9 : decode cX7_image 9 = .ok (.ldc 67, 2) := by decide +kernel
theorem dX7_image_11 : decode cX7_image 11 = .ok (.ireturn, 1) := by decide +kernel
theorem dX7_image_12 : decode cX7_image 12 = .ok (.aload_n 0, 1) := by decide +kernel
theorem dX7_image_13 : decode cX7_image 13 = .ok (.getfield 26, 3) := by decide +kernel
theorem dX7_image_16 : decode cX7_image 16 = .ok (.getfield 139, 3) := by decide +kernel
theorem dX7_image_19 : decode cX7_image 19 = .ok (.ifCond .ne 6, 3) := by decide +kernel
theorem dX7_image_22 : decode cX7_image 22 = .ok (.ldc 143, 2) := by decide +kernel
theorem dX7_image_24 : decode cX7_image 24 = .ok (.ireturn, 1) := by decide +kernel
theorem dX7_image_25 : decode cX7_image 25 = .ok (.aload_n 0, 1) := by decide +kernel
theorem dX7_image_26 : decode cX7_image 26 = .ok (.iload_n 1, 1) := by decide +kernel
theorem dX7_image_27 : decode cX7_image 27 = .ok (.invokevirtual 291, 3) := by decide +kernel
theorem dX7_image_30 : decode cX7_image 30 = .ok (.aload_n 0, 1) := by decide +kernel
theorem dX7_image_31 : decode cX7_image 31 = .ok (.getfield 26, 3) := by decide +kernel
theorem dX7_image_34 : decode cX7_image 34 = .ok (.invokevirtual 129, 3) := by decide +kernel
theorem dX7_image_37 : decode cX7_image 37 = .ok (.iconst 1, 1) := by decide +kernel
theorem dX7_image_38 : decode cX7_image 38 = .ok (.ireturn, 1) := by decide +kernel
theorem dX7_recall_0 : decode cX7_recall 0 = .ok (.iload_n 1, 1) := by decide +kernel
theorem dX7_recall_1 : decode cX7_recall 1 = .ok (.iconst 0, 1) := by decide +kernel
theorem dX7_recall_2 : decode cX7_recall 2 = .ok (.iconst 1, 1) := by decide +kernel
theorem dX7_recall_3 : decode cX7_recall 3 = .ok (.invokestatic 101, 3) := by decide +kernel
theorem dX7_recall_6 : decode cX7_recall 6 = .ok (.ifCond .ne 6, 3) := by decide +kernel
theorem dX7_recall_9 : decode cX7_recall 9 = .ok (.ldc 67, 2) := by decide +kernel
theorem dX7_recall_11 : decode cX7_recall 11 = .ok (.ireturn, 1) := by decide +kernel
theorem dX7_recall_12 : decode cX7_recall 12 = .ok (.aload_n 0, 1) := by decide +kernel
theorem dX7_recall_13 : decode cX7_recall 13 = .ok (.iload_n 1, 1) := by decide +kernel
theorem dX7_recall_14 : decode cX7_recall 14 = .ok (.invokevirtual 291, 3) := by decide +kernel
theorem dX7_recall_17 : decode cX7_recall 17 = .ok (.getfield 139, 3) := by decide +kernel
theorem dX7_recall_20 : decode cX7_recall 20 = .ok (.ifCond .ne 6, 3) := by decide +kernel
theorem dX7_recall_23 : decode cX7_recall 23 = .ok (.ldc 143, 2) := by decide +kernel
theorem dX7_recall_25 : decode cX7_recall 25 = .ok (.ireturn, 1) := by decide +kernel
theorem dX7_recall_26 : decode cX7_recall 26 = .ok (.aload_n 0, 1) := by decide +kernel
theorem dX7_recall_27 : decode cX7_recall 27 = .ok (.getfield 26, 3) := by decide +kernel
theorem dX7_recall_30 : decode cX7_recall 30 = .ok (.aload_n 0, 1) := by decide +kernel
theorem dX7_recall_31 : decode cX7_recall 31 = .ok (.iload_n 1, 1) := by decide +kernel
theorem dX7_recall_32 : decode cX7_recall 32 = .ok (.invokevirtual 291, 3) := by decide +kernel
theorem dX7_recall_35 : decode cX7_recall 35 = .ok (.invokevirtual 129, 3) := by decide +kernel
theorem dX7_recall_38 : decode cX7_recall 38 = .ok (.aload_n 0, 1) := by decide +kernel
theorem dX7_recall_39 : decode cX7_recall 39 = .ok (.getfield 42, 3) := by decide +kernel
theorem dX7_recall_42 : decode cX7_recall 42 = .ok (.invokevirtual 133, 3) := by decide +kernel
theorem dX7_recall_45 : decode cX7_recall 45 = .ok (.iconst 1, 1) := by decide +kernel
theorem dX7_recall_46 : decode cX7_recall 46 = .ok (.ireturn, 1) := by decide +kernel
theorem dX7_kind_0 : decode cX7_kind 0 = .ok (.aload_n 0, 1) := by decide +kernel
theorem dX7_kind_1 : decode cX7_kind 1 = .ok (.getfield 26, 3) := by decide +kernel
theorem dX7_kind_4 : decode cX7_kind 4 = .ok (.iload_n 1, 1) := by decide +kernel
theorem dX7_kind_5 : decode cX7_kind 5 = .ok (.invokevirtual 157, 3) := by decide +kernel
theorem dX7_kind_8 : decode cX7_kind 8 = .ok (.ifCond .eq 15, 3) := by decide +kernel
theorem dX7_kind_11 : decode cX7_kind 11 = .ok (.aload_n 0, 1) := by decide +kernel
theorem dX7_kind_12 : decode cX7_kind 12 = .ok (.getfield 26, 3) := by decide +kernel
theorem dX7_kind_15 : decode cX7_kind 15 = .ok (.getfield 295, 3) := by decide +kernel
theorem dX7_kind_18 : decode cX7_kind 18 = .ok (.iload_n 1, 1) := by decide +kernel
theorem dX7_kind_19 : decode cX7_kind 19 = .ok (.iaload, 1) := by decide +kernel
theorem dX7_kind_20 : decode cX7_kind 20 = .ok (.goto 5, 3) := by decide +kernel
theorem dX7_kind_23 : decode cX7_kind 23 = .ok (.ldc 67, 2) := by decide +kernel
theorem dX7_kind_25 : decode cX7_kind 25 = .ok (.ireturn, 1) := by decide +kernel
theorem dX7_as_0 : decode cX7_as 0 = .ok (.aload_n 0, 1) := by decide +kernel
theorem dX7_as_1 : decode cX7_as 1 = .ok (.getfield 26, 3) := by decide +kernel
theorem dX7_as_4 : decode cX7_as 4 = .ok (.iload_n 1, 1) := by decide +kernel
theorem dX7_as_5 : decode cX7_as 5 = .ok (.invokevirtual 157, 3) := by decide +kernel
theorem dX7_as_8 : decode cX7_as 8 = .ok (.ifCond .eq 12, 3) := by decide +kernel
theorem dX7_as_11 : decode cX7_as 11 = .ok (.iload_n 2, 1) := by decide +kernel
theorem dX7_as_12 : decode cX7_as 12 = .ok (.iconst 0, 1) := by decide +kernel
theorem dX7_as_13 : decode cX7_as 13 = .ok (.iconst 5, 1) := by decide +kernel
theorem dX7_as_14 : decode cX7_as 14 = .ok (.invokestatic 101, 3) := by decide +kernel
theorem dX7_as_17 : decode cX7_as 17 = .ok (.ifCond .ne 6, 3) := by decide +kernel
theorem dX7_as_20 : decode cX7_as 20 = .ok (.ldc 67, 2) := by decide +kernel
theorem dX7_as_22 : decode cX7_as 22 = .ok (.ireturn, 1) := by decide +kernel
theorem dX7_as_23 : decode cX7_as 23 = .ok (.aload_n 0, 1) := by decide +kernel
theorem dX7_as_24 : decode cX7_as 24 = .ok (.getfield 56, 3) := by decide +kernel
theorem dX7_as_27 : decode cX7_as 27 = .ok (.aload_n 0, 1) := by decide +kernel
theorem dX7_as_28 : decode cX7_as 28 = .ok (.getfield 26, 3) := by decide +kernel
theorem dX7_as_31 : decode cX7_as 31 = .ok (.getfield 295, 3) := by decide +kernel
theorem dX7_as_34 : decode cX7_as 34 = .ok (.iload_n 1, 1) := by decide +kernel
theorem dX7_as_35 : decode cX7_as 35 = .ok (.iaload, 1) := by decide +kernel
theorem dX7_as_36 : decode cX7_as 36 = .ok (.iload_n 2, 1) := by decide +kernel
theorem dX7_as_37 : decode cX7_as 37 = .ok (.invokevirtual 298, 3) := by decide +kernel
theorem dX7_as_40 : decode cX7_as 40 = .ok (.ifCond .ne 9, 3) := by decide +kernel
theorem dX7_as_43 : decode cX7_as 43 = .ok (.aload_n 0, 1) := by decide +kernel
theorem dX7_as_44 : decode cX7_as 44 = .ok (.iconst 3, 1) := by decide +kernel
theorem dX7_as_45 : decode cX7_as 45 = .ok (.invokevirtual 68, 3) := by decide +kernel
theorem dX7_as_48 : decode cX7_as 48 = .ok (.ireturn, 1) := by decide +kernel
theorem dX7_as_49 : decode cX7_as 49 = .ok (.aload_n 0, 1) := by decide +kernel
theorem dX7_as_50 : decode cX7_as 50 = .ok (.iload_n 1, 1) := by decide +kernel
theorem dX7_as_51 : decode cX7_as 51 = .ok (.invokevirtual 76, 3) := by decide +kernel
theorem dX7_as_54 : decode cX7_as 54 = .ok (.ireturn, 1) := by decide +kernel
theorem dX7_ask_0 : decode cX7_ask 0 = .ok (.aload_n 0, 1) := by decide +kernel
theorem dX7_ask_1 : decode cX7_ask 1 = .ok (.getfield 26, 3) := by decide +kernel
theorem dX7_ask_4 : decode cX7_ask 4 = .ok (.iload_n 1, 1) := by decide +kernel
theorem dX7_ask_5 : decode cX7_ask 5 = .ok (.invokevirtual 157, 3) := by decide +kernel
theorem dX7_ask_8 : decode cX7_ask 8 = .ok (.ifCond .eq 12, 3) := by decide +kernel
theorem dX7_ask_11 : decode cX7_ask 11 = .ok (.iload_n 2, 1) := by decide +kernel
theorem dX7_ask_12 : decode cX7_ask 12 = .ok (.iconst 0, 1) := by decide +kernel
theorem dX7_ask_13 : decode cX7_ask 13 = .ok (.iconst 1, 1) := by decide +kernel
theorem dX7_ask_14 : decode cX7_ask 14 = .ok (.invokestatic 101, 3) := by decide +kernel
theorem dX7_ask_17 : decode cX7_ask 17 = .ok (.ifCond .ne 6, 3) := by decide +kernel
theorem dX7_ask_20 : decode cX7_ask 20 = .ok (.ldc 67, 2) := by decide +kernel
theorem dX7_ask_22 : decode cX7_ask 22 = .ok (.ireturn, 1) := by decide +kernel
theorem dX7_ask_23 : decode cX7_ask 23 = .ok (.iload_n 2, 1) := by decide +kernel
theorem dX7_ask_24 : decode cX7_ask 24 = .ok (.ifCond .ne 18, 3) := by decide +kernel
theorem dX7_ask_27 : decode cX7_ask 27 = .ok (.aload_n 0, 1) := by decide +kernel
theorem dX7_ask_28 : decode cX7_ask 28 = .ok (.getfield 56, 3) := by decide +kernel
theorem dX7_ask_31 : decode cX7_ask 31 = .ok (.aload_n 0, 1) := by decide +kernel
theorem dX7_ask_32 : decode cX7_ask 32 = .ok (.getfield 26, 3) := by decide +kernel
theorem dX7_ask_35 : decode cX7_ask 35 = .ok (.iload_n 1, 1) := by decide +kernel
theorem dX7_ask_36 : decode cX7_ask 36 = .ok (.invokevirtual 301, 3) := by decide +kernel
theorem dX7_ask_39 : decode cX7_ask 39 = .ok (.goto 15, 3) := by decide +kernel
theorem dX7_ask_42 : decode cX7_ask 42 = .ok (.aload_n 0, 1) := by decide +kernel
theorem dX7_ask_43 : decode cX7_ask 43 = .ok (.getfield 56, 3) := by decide +kernel
theorem dX7_ask_46 : decode cX7_ask 46 = .ok (.aload_n 0, 1) := by decide +kernel
theorem dX7_ask_47 : decode cX7_ask 47 = .ok (.getfield 26, 3) := by decide +kernel
theorem dX7_ask_50 : decode cX7_ask 50 = .ok (.iload_n 1, 1) := by decide +kernel
theorem dX7_ask_51 : decode cX7_ask 51 = .ok (.invokevirtual 304, 3) := by decide +kernel
theorem dX7_ask_54 : decode cX7_ask 54 = .ok (.ireturn, 1) := by decide +kernel
theorem dX7_trace_0 : decode cX7_trace 0 = .ok (.iload_n 1, 1) := by decide +kernel
theorem dX7_trace_1 : decode cX7_trace 1 = .ok (.iconst 0, 1) := by decide +kernel
theorem dX7_trace_2 : decode cX7_trace 2 = .ok (.aload_n 0, 1) := by decide +kernel
theorem dX7_trace_3 : decode cX7_trace 3 = .ok (.getfield 56, 3) := by decide +kernel
theorem dX7_trace_6 : decode cX7_trace 6 = .ok (.getfield 307, 3) := by decide +kernel
theorem dX7_trace_9 : decode cX7_trace 9 = .ok (.iconst 1, 1) := by decide +kernel
theorem dX7_trace_10 : decode cX7_trace 10 = .ok (.isub, 1) := by decide +kernel
theorem dX7_trace_11 : decode cX7_trace 11 = .ok (.invokestatic 101, 3) := by decide +kernel
theorem dX7_trace_14 : decode cX7_trace 14 = .ok (.ifCond .eq 15, 3) := by decide +kernel
theorem dX7_trace_17 : decode cX7_trace 17 = .ok (.aload_n 0, 1) := by decide +kernel
theorem dX7_trace_18 : decode cX7_trace 18 = .ok (.getfield 56, 3) := by decide +kernel
theorem dX7_trace_21 : decode cX7_trace 21 = .ok (.getfield 310, 3) := by decide +kernel
theorem dX7_trace_24 : decode cX7_trace 24 = .ok (.iload_n 1, 1) := by decide +kernel
theorem dX7_trace_25 : decode cX7_trace 25 = .ok (.iaload, 1) := by decide +kernel
theorem dX7_trace_26 : decode cX7_trace 26 = .ok (.goto 5, 3) := by decide +kernel
theorem dX7_trace_29 : decode cX7_trace 29 = .ok (.ldc 224, 2) := by decide +kernel
theorem dX7_trace_31 : decode cX7_trace 31 = .ok (.ireturn, 1) := by decide +kernel
theorem dX7_count_0 : decode cX7_count 0 = .ok (.iload_n 1, 1) := by decide +kernel
theorem dX7_count_1 : decode cX7_count 1 = .ok (.tableswitch 111 0 7 #[47, 55, 63, 71, 79, 87, 95, 103], 47) := by decide +kernel
theorem dX7_count_48 : decode cX7_count 48 = .ok (.aload_n 0, 1) := by decide +kernel
theorem dX7_count_49 : decode cX7_count 49 = .ok (.getfield 10, 3) := by decide +kernel
theorem dX7_count_52 : decode cX7_count 52 = .ok (.invokevirtual 313, 3) := by decide +kernel
theorem dX7_count_55 : decode cX7_count 55 = .ok (.ireturn, 1) := by decide +kernel
theorem dX7_count_56 : decode cX7_count 56 = .ok (.aload_n 0, 1) := by decide +kernel
theorem dX7_count_57 : decode cX7_count 57 = .ok (.getfield 26, 3) := by decide +kernel
theorem dX7_count_60 : decode cX7_count 60 = .ok (.getfield 316, 3) := by decide +kernel
theorem dX7_count_63 : decode cX7_count 63 = .ok (.ireturn, 1) := by decide +kernel
theorem dX7_count_64 : decode cX7_count 64 = .ok (.aload_n 0, 1) := by decide +kernel
theorem dX7_count_65 : decode cX7_count 65 = .ok (.getfield 26, 3) := by decide +kernel
theorem dX7_count_68 : decode cX7_count 68 = .ok (.getfield 136, 3) := by decide +kernel
theorem dX7_count_71 : decode cX7_count 71 = .ok (.ireturn, 1) := by decide +kernel
theorem dX7_count_72 : decode cX7_count 72 = .ok (.aload_n 0, 1) := by decide +kernel
theorem dX7_count_73 : decode cX7_count 73 = .ok (.getfield 26, 3) := by decide +kernel
theorem dX7_count_76 : decode cX7_count 76 = .ok (.getfield 144, 3) := by decide +kernel
theorem dX7_count_79 : decode cX7_count 79 = .ok (.ireturn, 1) := by decide +kernel
theorem dX7_count_80 : decode cX7_count 80 = .ok (.aload_n 0, 1) := by decide +kernel
theorem dX7_count_81 : decode cX7_count 81 = .ok (.getfield 26, 3) := by decide +kernel
theorem dX7_count_84 : decode cX7_count 84 = .ok (.getfield 173, 3) := by decide +kernel
theorem dX7_count_87 : decode cX7_count 87 = .ok (.ireturn, 1) := by decide +kernel
theorem dX7_count_88 : decode cX7_count 88 = .ok (.aload_n 0, 1) := by decide +kernel
theorem dX7_count_89 : decode cX7_count 89 = .ok (.getfield 26, 3) := by decide +kernel
theorem dX7_count_92 : decode cX7_count 92 = .ok (.invokevirtual 153, 3) := by decide +kernel
theorem dX7_count_95 : decode cX7_count 95 = .ok (.ireturn, 1) := by decide +kernel
theorem dX7_count_96 : decode cX7_count 96 = .ok (.aload_n 0, 1) := by decide +kernel
theorem dX7_count_97 : decode cX7_count 97 = .ok (.getfield 42, 3) := by decide +kernel
theorem dX7_count_100 : decode cX7_count 100 = .ok (.getfield 188, 3) := by decide +kernel
theorem dX7_count_103 : decode cX7_count 103 = .ok (.ireturn, 1) := by decide +kernel
theorem dX7_count_104 : decode cX7_count 104 = .ok (.aload_n 0, 1) := by decide +kernel
theorem dX7_count_105 : decode cX7_count 105 = .ok (.getfield 19, 3) := by decide +kernel
theorem dX7_count_108 : decode cX7_count 108 = .ok (.getfield 107, 3) := by decide +kernel
theorem dX7_count_111 : decode cX7_count 111 = .ok (.ireturn, 1) := by decide +kernel
theorem dX7_count_112 : decode cX7_count 112 = .ok (.ldc 67, 2) := by decide +kernel
theorem dX7_count_114 : decode cX7_count 114 = .ok (.ireturn, 1) := by decide +kernel
theorem dX7_status_0 : decode cX7_status 0 = .ok (.aload_n 0, 1) := by decide +kernel
theorem dX7_status_1 : decode cX7_status 1 = .ok (.getfield 319, 3) := by decide +kernel
theorem dX7_status_4 : decode cX7_status 4 = .ok (.ireturn, 1) := by decide +kernel
theorem dX7_found_0 : decode cX7_found 0 = .ok (.aload_n 0, 1) := by decide +kernel
theorem dX7_found_1 : decode cX7_found 1 = .ok (.iload_n 1, 1) := by decide +kernel
theorem dX7_found_2 : decode cX7_found 2 = .ok (.putfield 319, 3) := by decide +kernel
theorem dX7_found_5 : decode cX7_found 5 = .ok (.ldc_w 322, 3) := by decide +kernel
theorem dX7_found_8 : decode cX7_found 8 = .ok (.iload_n 1, 1) := by decide +kernel
theorem dX7_found_9 : decode cX7_found 9 = .ok (.isub, 1) := by decide +kernel
theorem dX7_found_10 : decode cX7_found 10 = .ok (.ireturn, 1) := by decide +kernel
theorem dX7_foundNothing_0 : decode cX7_foundNothing 0 = .ok (.aload_n 0, 1) := by decide +kernel
theorem dX7_foundNothing_1 : decode cX7_foundNothing 1 = .ok (.iconst 0, 1) := by decide +kernel
theorem dX7_foundNothing_2 : decode cX7_foundNothing 2 = .ok (.putfield 319, 3) := by decide +kernel
theorem dX7_foundNothing_5 : decode cX7_foundNothing 5 = .ok (.iload_n 1, 1) := by decide +kernel
theorem dX7_foundNothing_6 : decode cX7_foundNothing 6 = .ok (.ireturn, 1) := by decide +kernel
theorem dX7_imageOf_0 : decode cX7_imageOf 0 = .ok (.iload_n 1, 1) := by decide +kernel
theorem dX7_imageOf_1 : decode cX7_imageOf 1 = .ok (.ifCond .ne 10, 3) := by decide +kernel
theorem dX7_imageOf_4 : decode cX7_imageOf 4 = .ok (.aload_n 0, 1) := by decide +kernel
theorem dX7_imageOf_5 : decode cX7_imageOf 5 = .ok (.getfield 33, 3) := by decide +kernel
theorem dX7_imageOf_8 : decode cX7_imageOf 8 = .ok (.goto 7, 3) := by decide +kernel
theorem dX7_imageOf_11 : decode cX7_imageOf 11 = .ok (.aload_n 0, 1) := by decide +kernel
theorem dX7_imageOf_12 : decode cX7_imageOf 12 = .ok (.getfield 36, 3) := by decide +kernel
theorem dX7_imageOf_15 : decode cX7_imageOf 15 = .ok (.areturn, 1) := by decide +kernel
theorem dX7_isAhead_0 : decode cX7_isAhead 0 = .ok (.iload_n 0, 1) := by decide +kernel
theorem dX7_isAhead_1 : decode cX7_isAhead 1 = .ok (.iconst 0, 1) := by decide +kernel
theorem dX7_isAhead_2 : decode cX7_isAhead 2 = .ok (.bipush 60, 2) := by decide +kernel
theorem dX7_isAhead_4 : decode cX7_isAhead 4 = .ok (.invokestatic 101, 3) := by decide +kernel
theorem dX7_isAhead_7 : decode cX7_isAhead 7 = .ok (.ireturn, 1) := by decide +kernel
theorem dX7_isWithin_0 : decode cX7_isWithin 0 = .ok (.iload_n 0, 1) := by decide +kernel
theorem dX7_isWithin_1 : decode cX7_isWithin 1 = .ok (.iload_n 1, 1) := by decide +kernel
theorem dX7_isWithin_2 : decode cX7_isWithin 2 = .ok (.if_icmp .lt 12, 3) := by decide +kernel
theorem dX7_isWithin_5 : decode cX7_isWithin 5 = .ok (.iload_n 0, 1) := by decide +kernel
theorem dX7_isWithin_6 : decode cX7_isWithin 6 = .ok (.iload_n 2, 1) := by decide +kernel
theorem dX7_isWithin_7 : decode cX7_isWithin 7 = .ok (.if_icmp .gt 7, 3) := by decide +kernel
theorem dX7_isWithin_10 : decode cX7_isWithin 10 = .ok (.iconst 1, 1) := by decide +kernel
theorem dX7_isWithin_11 : decode cX7_isWithin 11 = .ok (.goto 4, 3) := by decide +kernel
theorem dX7_isWithin_14 : decode cX7_isWithin 14 = .ok (.iconst 0, 1) := by decide +kernel
theorem dX7_isWithin_15 : decode cX7_isWithin 15 = .ok (.ireturn, 1) := by decide +kernel
theorem dX8_init_0 : decode cX8_init 0 = .ok (.aload_n 0, 1) := by decide +kernel
theorem dX8_init_1 : decode cX8_init 1 = .ok (.invokespecial 1, 3) := by decide +kernel
theorem dX8_init_4 : decode cX8_init 4 = .ok (.aload_n 0, 1) := by decide +kernel
theorem dX8_init_5 : decode cX8_init 5 = .ok (.bipush 8, 2) := by decide +kernel
theorem dX8_init_7 : decode cX8_init 7 = .ok (.newarray .int, 2) := by decide +kernel
theorem dX8_init_9 : decode cX8_init 9 = .ok (.putfield 7, 3) := by decide +kernel
theorem dX8_init_12 : decode cX8_init 12 = .ok (.aload_n 0, 1) := by decide +kernel
theorem dX8_init_13 : decode cX8_init 13 = .ok (.bipush 8, 2) := by decide +kernel
theorem dX8_init_15 : decode cX8_init 15 = .ok (.newarray .int, 2) := by decide +kernel
theorem dX8_init_17 : decode cX8_init 17 = .ok (.putfield 13, 3) := by decide +kernel
theorem dX8_init_20 : decode cX8_init 20 = .ok (.aload_n 0, 1) := by decide +kernel
theorem dX8_init_21 : decode cX8_init 21 = .ok (.sipush 320, 3) := by decide +kernel
theorem dX8_init_24 : decode cX8_init 24 = .ok (.newarray .int, 2) := by decide +kernel
theorem dX8_init_26 : decode cX8_init 26 = .ok (.putfield 16, 3) := by decide +kernel
theorem dX8_init_29 : decode cX8_init 29 = .ok (.aload_n 0, 1) := by decide +kernel
theorem dX8_init_30 : decode cX8_init 30 = .ok (.bipush 40, 2) := by decide +kernel
theorem dX8_init_32 : decode cX8_init 32 = .ok (.newarray .int, 2) := by decide +kernel
theorem dX8_init_34 : decode cX8_init 34 = .ok (.putfield 19, 3) := by decide +kernel
theorem dX8_init_37 : decode cX8_init 37 = .ok (.aload_n 0, 1) := by decide +kernel
theorem dX8_init_38 : decode cX8_init 38 = .ok (.bipush 100, 2) := by decide +kernel
theorem dX8_init_40 : decode cX8_init 40 = .ok (.newarray .int, 2) := by decide +kernel
theorem dX8_init_42 : decode cX8_init 42 = .ok (.putfield 22, 3) := by decide +kernel
theorem dX8_init_45 : decode cX8_init 45 = .ok (.aload_n 0, 1) := by decide +kernel
theorem dX8_init_46 : decode cX8_init 46 = .ok (.bipush 33, 2) := by decide +kernel
theorem dX8_init_48 : decode cX8_init 48 = .ok (.newarray .int, 2) := by decide +kernel
theorem dX8_init_50 : decode cX8_init 50 = .ok (.putfield 25, 3) := by decide +kernel
theorem dX8_init_53 : decode cX8_init 53 = .ok (.aload_n 0, 1) := by decide +kernel
theorem dX8_init_54 : decode cX8_init 54 = .ok (.bipush 33, 2) := by decide +kernel
theorem dX8_init_56 : decode cX8_init 56 = .ok (.newarray .int, 2) := by decide +kernel
theorem dX8_init_58 : decode cX8_init 58 = .ok (.putfield 28, 3) := by decide +kernel
theorem dX8_init_61 : decode cX8_init 61 = .ok (.aload_n 0, 1) := by decide +kernel
theorem dX8_init_62 : decode cX8_init 62 = .ok (.bipush 33, 2) := by decide +kernel
theorem dX8_init_64 : decode cX8_init 64 = .ok (.newarray .int, 2) := by decide +kernel
theorem dX8_init_66 : decode cX8_init 66 = .ok (.putfield 31, 3) := by decide +kernel
theorem dX8_init_69 : decode cX8_init 69 = .ok (.aload_n 0, 1) := by decide +kernel
theorem dX8_init_70 : decode cX8_init 70 = .ok (.sipush 792, 3) := by decide +kernel
theorem dX8_init_73 : decode cX8_init 73 = .ok (.newarray .int, 2) := by decide +kernel
theorem dX8_init_75 : decode cX8_init 75 = .ok (.putfield 34, 3) := by decide +kernel
theorem dX8_init_78 : decode cX8_init 78 = .ok (.aload_n 0, 1) := by decide +kernel
theorem dX8_init_79 : decode cX8_init 79 = .ok (.bipush 66, 2) := by decide +kernel
theorem dX8_init_81 : decode cX8_init 81 = .ok (.newarray .int, 2) := by decide +kernel
theorem dX8_init_83 : decode cX8_init 83 = .ok (.putfield 37, 3) := by decide +kernel
theorem dX8_init_86 : decode cX8_init 86 = .ok (.aload_n 0, 1) := by decide +kernel
theorem dX8_init_87 : decode cX8_init 87 = .ok (.iconst 2, 1) := by decide +kernel
theorem dX8_init_88 : decode cX8_init 88 = .ok (.newarray .boolean, 2) := by decide +kernel
theorem dX8_init_90 : decode cX8_init 90 = .ok (.putfield 40, 3) := by decide +kernel
theorem dX8_init_93 : decode cX8_init 93 = .ok (.aload_n 0, 1) := by decide +kernel
theorem dX8_init_94 : decode cX8_init 94 = .ok (.iconst 5, 1) := by decide +kernel
theorem dX8_init_95 : decode cX8_init 95 = .ok (.newarray .int, 2) := by decide +kernel
theorem dX8_init_97 : decode cX8_init 97 = .ok (.putfield 44, 3) := by decide +kernel
theorem dX8_init_100 : decode cX8_init 100 = .ok (.aload_n 0, 1) := by decide +kernel
theorem dX8_init_101 : decode cX8_init 101 = .ok (.iconst 5, 1) := by decide +kernel
theorem dX8_init_102 : decode cX8_init 102 = .ok (.newarray .int, 2) := by decide +kernel
theorem dX8_init_104 : decode cX8_init 104 = .ok (.putfield 47, 3) := by decide +kernel
theorem dX8_init_107 : decode cX8_init 107 = .ok (.aload_n 0, 1) := by decide +kernel
theorem dX8_init_108 : decode cX8_init 108 = .ok (.bipush 16, 2) := by decide +kernel
theorem dX8_init_110 : decode cX8_init 110 = .ok (.newarray .int, 2) := by decide +kernel
theorem dX8_init_112 : decode cX8_init 112 = .ok (.putfield 50, 3) := by decide +kernel
theorem dX8_init_115 : decode cX8_init 115 = .ok (.iconst 0, 1) := by decide +kernel
theorem dX8_init_116 : decode cX8_init 116 = .ok (.istore_n 1, 1) := by decide +kernel
theorem dX8_init_117 : decode cX8_init 117 = .ok (.iload_n 1, 1) := by decide +kernel
theorem dX8_init_118 : decode cX8_init 118 = .ok (.bipush 8, 2) := by decide +kernel
theorem dX8_init_120 : decode cX8_init 120 = .ok (.if_icmp .ge 17, 3) := by decide +kernel
theorem dX8_init_123 : decode cX8_init 123 = .ok (.aload_n 0, 1) := by decide +kernel
theorem dX8_init_124 : decode cX8_init 124 = .ok (.getfield 7, 3) := by decide +kernel
theorem dX8_init_127 : decode cX8_init 127 = .ok (.iload_n 1, 1) := by decide +kernel
theorem dX8_init_128 : decode cX8_init 128 = .ok (.ldc 53, 2) := by decide +kernel
theorem dX8_init_130 : decode cX8_init 130 = .ok (.iastore, 1) := by decide +kernel
theorem dX8_init_131 : decode cX8_init 131 = .ok (.iinc 1 1, 3) := by decide +kernel
theorem dX8_init_134 : decode cX8_init 134 = .ok (.goto (-17), 3) := by decide +kernel
theorem dX8_init_137 : decode cX8_init 137 = .ok (.return_, 1) := by decide +kernel
theorem dX8_in_0 : decode cX8_in 0 = .ok (.iload_n 0, 1) := by decide +kernel
theorem dX8_in_1 : decode cX8_in 1 = .ok (.iload_n 1, 1) := by decide +kernel
theorem dX8_in_2 : decode cX8_in 2 = .ok (.if_icmp .lt 12, 3) := by decide +kernel
theorem dX8_in_5 : decode cX8_in 5 = .ok (.iload_n 0, 1) := by decide +kernel
theorem dX8_in_6 : decode cX8_in 6 = .ok (.iload_n 2, 1) := by decide +kernel
theorem dX8_in_7 : decode cX8_in 7 = .ok (.if_icmp .gt 7, 3) := by decide +kernel
theorem dX8_in_10 : decode cX8_in 10 = .ok (.iconst 1, 1) := by decide +kernel
theorem dX8_in_11 : decode cX8_in 11 = .ok (.goto 4, 3) := by decide +kernel
theorem dX8_in_14 : decode cX8_in 14 = .ok (.iconst 0, 1) := by decide +kernel
theorem dX8_in_15 : decode cX8_in 15 = .ok (.ireturn, 1) := by decide +kernel
theorem dX8_has_0 : decode cX8_has 0 = .ok (.iload_n 0, 1) := by decide +kernel
theorem dX8_has_1 : decode cX8_has 1 = .ok (.iload_n 1, 1) := by decide +kernel
theorem dX8_has_2 : decode cX8_has 2 = .ok (.ishr, 1) := by decide +kernel
theorem dX8_has_3 : decode cX8_has 3 = .ok (.iconst 1, 1) := by decide +kernel
theorem dX8_has_4 : decode cX8_has 4 = .ok (.iand, 1) := by decide +kernel
theorem dX8_has_5 : decode cX8_has 5 = .ok (.iconst 1, 1) := by decide +kernel
theorem dX8_has_6 : decode cX8_has 6 = .ok (.if_icmp .ne 7, 3) := by decide +kernel
theorem dX8_has_9 : decode cX8_has 9 = .ok (.iconst 1, 1) := by decide +kernel
theorem dX8_has_10 : decode cX8_has 10 = .ok (.goto 4, 3) := by decide +kernel
theorem dX8_has_13 : decode cX8_has 13 = .ok (.iconst 0, 1) := by decide +kernel
theorem dX8_has_14 : decode cX8_has 14 = .ok (.ireturn, 1) := by decide +kernel
theorem dX8_ones_0 : decode cX8_ones 0 = .ok (.iconst 0, 1) := by decide +kernel
theorem dX8_ones_1 : decode cX8_ones 1 = .ok (.istore_n 1, 1) := by decide +kernel
theorem dX8_ones_2 : decode cX8_ones 2 = .ok (.iconst 0, 1) := by decide +kernel
theorem dX8_ones_3 : decode cX8_ones 3 = .ok (.istore_n 2, 1) := by decide +kernel
theorem dX8_ones_4 : decode cX8_ones 4 = .ok (.iload_n 2, 1) := by decide +kernel
theorem dX8_ones_5 : decode cX8_ones 5 = .ok (.bipush 8, 2) := by decide +kernel
theorem dX8_ones_7 : decode cX8_ones 7 = .ok (.if_icmp .ge 17, 3) := by decide +kernel
theorem dX8_ones_10 : decode cX8_ones 10 = .ok (.iload_n 1, 1) := by decide +kernel
theorem dX8_ones_11 : decode cX8_ones 11 = .ok (.iload_n 0, 1) := by decide +kernel
theorem dX8_ones_12 : decode cX8_ones 12 = .ok (.iload_n 2, 1) := by decide +kernel
theorem dX8_ones_13 : decode cX8_ones 13 = .ok (.ishr, 1) := by decide +kernel
theorem dX8_ones_14 : decode cX8_ones 14 = .ok (.iconst 1, 1) := by decide +kernel
theorem dX8_ones_15 : decode cX8_ones 15 = .ok (.iand, 1) := by decide +kernel
theorem dX8_ones_16 : decode cX8_ones 16 = .ok (.iadd, 1) := by decide +kernel
theorem dX8_ones_17 : decode cX8_ones 17 = .ok (.istore_n 1, 1) := by decide +kernel
theorem dX8_ones_18 : decode cX8_ones 18 = .ok (.iinc 2 1, 3) := by decide +kernel
theorem dX8_ones_21 : decode cX8_ones 21 = .ok (.goto (-17), 3) := by decide +kernel
theorem dX8_ones_24 : decode cX8_ones 24 = .ok (.iload_n 1, 1) := by decide +kernel
theorem dX8_ones_25 : decode cX8_ones 25 = .ok (.ireturn, 1) := by decide +kernel
theorem dX8_found_0 : decode cX8_found 0 = .ok (.aload_n 0, 1) := by decide +kernel
theorem dX8_found_1 : decode cX8_found 1 = .ok (.iload_n 1, 1) := by decide +kernel
theorem dX8_found_2 : decode cX8_found 2 = .ok (.putfield 54, 3) := by decide +kernel
theorem dX8_found_5 : decode cX8_found 5 = .ok (.ldc 58, 2) := by decide +kernel
theorem dX8_found_7 : decode cX8_found 7 = .ok (.iload_n 1, 1) := by decide +kernel
theorem dX8_found_8 : decode cX8_found 8 = .ok (.isub, 1) := by decide +kernel
theorem dX8_found_9 : decode cX8_found 9 = .ok (.ireturn, 1) := by decide +kernel
theorem dX8_well_0 : decode cX8_well 0 = .ok (.aload_n 0, 1) := by decide +kernel
theorem dX8_well_1 : decode cX8_well 1 = .ok (.iconst 0, 1) := by decide +kernel
theorem dX8_well_2 : decode cX8_well 2 = .ok (.putfield 54, 3) := by decide +kernel
theorem dX8_well_5 : decode cX8_well 5 = .ok (.iload_n 1, 1) := by decide +kernel
theorem dX8_well_6 : decode cX8_well 6 = .ok (.ireturn, 1) := by decide +kernel
theorem dX8_copies_0 : decode cX8_copies 0 = .ok (.iconst 0, 1) := by decide +kernel
theorem dX8_copies_1 : decode cX8_copies 1 = .ok (.istore 4, 2) := by decide +kernel
theorem dX8_copies_3 : decode cX8_copies 3 = .ok (.iload 4, 2) := by decide +kernel
theorem dX8_copies_5 : decode cX8_copies 5 = .ok (.bipush 33, 2) := by decide +kernel
theorem dX8_copies_7 : decode cX8_copies 7 = .ok (.if_icmp .ge 21, 3) := by decide +kernel
theorem dX8_copies_10 : decode cX8_copies 10 = .ok (.aload_n 2, 1) := by decide +kernel
theorem dX8_copies_11 : decode cX8_copies 11 = .ok (.iload_n 3, 1) := by decide +kernel
theorem dX8_copies_12 : decode cX8_copies 12 = .ok (.iload 4, 2) := by decide +kernel
theorem dX8_copies_14 : decode cX8_copies 14 = .ok (.iadd, 1) := by decide +kernel
theorem dX8_copies_15 : decode cX8_copies 15 = .ok (.aload_n 0, 1) := by decide +kernel
theorem dX8_copies_16 : decode cX8_copies 16 = .ok (.iload_n 1, 1) := by decide +kernel
theorem dX8_copies_17 : decode cX8_copies 17 = .ok (.iload 4, 2) := by decide +kernel
theorem dX8_copies_19 : decode cX8_copies 19 = .ok (.iadd, 1) := by decide +kernel
theorem dX8_copies_20 : decode cX8_copies 20 = .ok (.iaload, 1) := by decide +kernel
theorem dX8_copies_21 : decode cX8_copies 21 = .ok (.iastore, 1) := by decide +kernel
theorem dX8_copies_22 : decode cX8_copies 22 = .ok (.iinc 4 1, 3) := by decide +kernel
theorem dX8_copies_25 : decode cX8_copies 25 = .ok (.goto (-22), 3) := by decide +kernel
theorem dX8_copies_28 : decode cX8_copies 28 = .ok (.return_, 1) := by decide +kernel
theorem dX8_isRow_0 : decode cX8_isRow 0 = .ok (.iload_n 0, 1) := by decide +kernel
theorem dX8_isRow_1 : decode cX8_isRow 1 = .ok (.iconst 0, 1) := by decide +kernel
theorem dX8_isRow_2 : decode cX8_isRow 2 = .ok (.bipush 7, 2) := by decide +kernel
theorem dX8_isRow_4 : decode cX8_isRow 4 = .ok (.invokestatic 59, 3) := by decide +kernel
theorem dX8_isRow_7 : decode cX8_isRow 7 = .ok (.ireturn, 1) := by decide +kernel
theorem dX8_isMissing_0 : decode cX8_isMissing 0 = .ok (.aload_n 0, 1) := by decide +kernel
theorem dX8_isMissing_1 : decode cX8_isMissing 1 = .ok (.getfield 7, 3) := by decide +kernel
theorem dX8_isMissing_4 : decode cX8_isMissing 4 = .ok (.iload_n 1, 1) := by decide +kernel
theorem dX8_isMissing_5 : decode cX8_isMissing 5 = .ok (.iaload, 1) := by decide +kernel
theorem dX8_isMissing_6 : decode cX8_isMissing 6 = .ok (.ldc 53, 2) := by decide +kernel
theorem dX8_isMissing_8 : decode cX8_isMissing 8 = .ok (.if_icmp .ne 7, 3) := by decide +kernel
theorem dX8_isMissing_11 : decode cX8_isMissing 11 = .ok (.iconst 1, 1) := by decide +kernel
theorem dX8_isMissing_12 : decode cX8_isMissing 12 = .ok (.goto 4, 3) := by decide +kernel
theorem dX8_isMissing_15 : decode cX8_isMissing 15 = .ok (.iconst 0, 1) := by decide +kernel
theorem dX8_isMissing_16 : decode cX8_isMissing 16 = .ok (.ireturn, 1) := by decide +kernel
theorem dX8_cut_0 : decode cX8_cut 0 = .ok (.iload_n 0, 1) := by decide +kernel
theorem dX8_cut_1 : decode cX8_cut 1 = .ok (.ifCond .ne 13, 3) := by decide +kernel
theorem dX8_cut_4 : decode cX8_cut 4 = .ok (.iload_n 1, 1) := by decide +kernel
theorem dX8_cut_5 : decode cX8_cut 5 = .ok (.bipush 24, 2) := by decide +kernel
theorem dX8_cut_7 : decode cX8_cut 7 = .ok (.ishl, 1) := by decide +kernel
theorem dX8_cut_8 : decode cX8_cut 8 = .ok (.bipush 24, 2) := by decide +kernel
theorem dX8_cut_10 : decode cX8_cut 10 = .ok (.ishr, 1) := by decide +kernel
theorem dX8_cut_11 : decode cX8_cut 11 = .ok (.goto 19, 3) := by decide +kernel
theorem dX8_cut_14 : decode cX8_cut 14 = .ok (.iload_n 0, 1) := by decide +kernel
theorem dX8_cut_15 : decode cX8_cut 15 = .ok (.iconst 1, 1) := by decide +kernel
theorem dX8_cut_16 : decode cX8_cut 16 = .ok (.if_icmp .ne 13, 3) := by decide +kernel
theorem dX8_cut_19 : decode cX8_cut 19 = .ok (.iload_n 1, 1) := by decide +kernel
theorem dX8_cut_20 : decode cX8_cut 20 = .ok (.bipush 16, 2) := by decide +kernel
theorem dX8_cut_22 : decode cX8_cut 22 = .ok (.ishl, 1) := by decide +kernel
theorem dX8_cut_23 : decode cX8_cut 23 = .ok (.bipush 16, 2) := by decide +kernel
theorem dX8_cut_25 : decode cX8_cut 25 = .ok (.ishr, 1) := by decide +kernel
theorem dX8_cut_26 : decode cX8_cut 26 = .ok (.goto 4, 3) := by decide +kernel
theorem dX8_cut_29 : decode cX8_cut 29 = .ok (.iload_n 1, 1) := by decide +kernel
theorem dX8_cut_30 : decode cX8_cut 30 = .ok (.ireturn, 1) := by decide +kernel
theorem dX8_row_0 : decode cX8_row 0 = .ok (.iload_n 1, 1) := by decide +kernel
theorem dX8_row_1 : decode cX8_row 1 = .ok (.invokestatic 63, 3) := by decide +kernel
theorem dX8_row_4 : decode cX8_row 4 = .ok (.ifCond .eq 18, 3) := by decide +kernel
theorem dX8_row_7 : decode cX8_row 7 = .ok (.iload_n 2, 1) := by decide +kernel
theorem dX8_row_8 : decode cX8_row 8 = .ok (.iconst 0, 1) := by decide +kernel
theorem dX8_row_9 : decode cX8_row 9 = .ok (.iconst 2, 1) := by decide +kernel
theorem dX8_row_10 : decode cX8_row 10 = .ok (.invokestatic 59, 3) := by decide +kernel
theorem dX8_row_13 : decode cX8_row 13 = .ok (.ifCond .eq 9, 3) := by decide +kernel
theorem dX8_row_16 : decode cX8_row 16 = .ok (.iload_n 3, 1) := by decide +kernel
theorem dX8_row_17 : decode cX8_row 17 = .ok (.bipush 40, 2) := by decide +kernel
theorem dX8_row_19 : decode cX8_row 19 = .ok (.if_icmp .le 6, 3) := by decide +kernel
theorem dX8_row_22 : decode cX8_row 22 = .ok (.ldc 67, 2) := by decide +kernel
theorem dX8_row_24 : decode cX8_row 24 = .ok (.ireturn, 1) := by decide +kernel
theorem dX8_row_25 : decode cX8_row 25 = .ok (.iload_n 3, 1) := by decide +kernel
theorem dX8_row_26 : decode cX8_row 26 = .ok (.ifCond .ge 9, 3) := by decide +kernel
theorem dX8_row_29 : decode cX8_row 29 = .ok (.aload_n 0, 1) := by decide +kernel
theorem dX8_row_30 : decode cX8_row 30 = .ok (.iconst 4, 1) := by decide +kernel
theorem dX8_row_31 : decode cX8_row 31 = .ok (.invokevirtual 68, 3) := by decide +kernel
theorem dX8_row_34 : decode cX8_row 34 = .ok (.ireturn, 1) := by decide +kernel
theorem dX8_row_35 : decode cX8_row 35 = .ok (.aload_n 0, 1) := by decide +kernel
theorem dX8_row_36 : decode cX8_row 36 = .ok (.getfield 7, 3) := by decide +kernel
theorem dX8_row_39 : decode cX8_row 39 = .ok (.iload_n 1, 1) := by decide +kernel
theorem dX8_row_40 : decode cX8_row 40 = .ok (.iload_n 2, 1) := by decide +kernel
theorem dX8_row_41 : decode cX8_row 41 = .ok (.iastore, 1) := by decide +kernel
theorem dX8_row_42 : decode cX8_row 42 = .ok (.aload_n 0, 1) := by decide +kernel
theorem dX8_row_43 : decode cX8_row 43 = .ok (.getfield 13, 3) := by decide +kernel
theorem dX8_row_46 : decode cX8_row 46 = .ok (.iload_n 1, 1) := by decide +kernel
theorem dX8_row_47 : decode cX8_row 47 = .ok (.iload_n 3, 1) := by decide +kernel
theorem dX8_row_48 : decode cX8_row 48 = .ok (.iastore, 1) := by decide +kernel
theorem dX8_row_49 : decode cX8_row 49 = .ok (.iconst 0, 1) := by decide +kernel
theorem dX8_row_50 : decode cX8_row 50 = .ok (.istore 4, 2) := by decide +kernel
theorem dX8_row_52 : decode cX8_row 52 = .ok (.iload 4, 2) := by decide +kernel
theorem dX8_row_54 : decode cX8_row 54 = .ok (.bipush 40, 2) := by decide +kernel
theorem dX8_row_56 : decode cX8_row 56 = .ok (.if_icmp .ge 22, 3) := by decide +kernel
theorem dX8_row_59 : decode cX8_row 59 = .ok (.aload_n 0, 1) := by decide +kernel
theorem dX8_row_60 : decode cX8_row 60 = .ok (.getfield 16, 3) := by decide +kernel
theorem dX8_row_63 : decode cX8_row 63 = .ok (.bipush 40, 2) := by decide +kernel
theorem dX8_row_65 : decode cX8_row 65 = .ok (.iload_n 1, 1) := by decide +kernel
theorem dX8_row_66 : decode cX8_row 66 = .ok (.imul, 1) := by decide +kernel
theorem dX8_row_67 : decode cX8_row 67 = .ok (.iload 4, 2) := by decide +kernel
theorem dX8_row_69 : decode cX8_row 69 = .ok (.iadd, 1) := by decide +kernel
theorem dX8_row_70 : decode cX8_row 70 = .ok (.iconst 0, 1) := by decide +kernel
theorem dX8_row_71 : decode cX8_row 71 = .ok (.iastore, 1) := by decide +kernel
theorem dX8_row_72 : decode cX8_row 72 = .ok (.iinc 4 1, 3) := by decide +kernel
theorem dX8_row_75 : decode cX8_row 75 = .ok (.goto (-23), 3) := by decide +kernel
theorem dX8_row_78 : decode cX8_row 78 = .ok (.aload_n 0, 1) := by decide +kernel
theorem dX8_row_79 : decode cX8_row 79 = .ok (.iload_n 3, 1) := by decide +kernel
theorem dX8_row_80 : decode cX8_row 80 = .ok (.invokevirtual 72, 3) := by decide +kernel
theorem dX8_row_83 : decode cX8_row 83 = .ok (.ireturn, 1) := by decide +kernel
theorem dX8_set_0 : decode cX8_set 0 = .ok (.iload_n 1, 1) := by decide +kernel
theorem dX8_set_1 : decode cX8_set 1 = .ok (.invokestatic 63, 3) := by decide +kernel
theorem dX8_set_4 : decode cX8_set 4 = .ok (.ifCond .ne 6, 3) := by decide +kernel
theorem dX8_set_7 : decode cX8_set 7 = .ok (.ldc 67, 2) := by decide +kernel
theorem dX8_set_9 : decode cX8_set 9 = .ok (.ireturn, 1) := by decide +kernel
theorem dX8_set_10 : decode cX8_set 10 = .ok (.aload_n 0, 1) := by decide +kernel
theorem dX8_set_11 : decode cX8_set 11 = .ok (.iload_n 1, 1) := by decide +kernel
theorem dX8_set_12 : decode cX8_set 12 = .ok (.invokevirtual 75, 3) := by decide +kernel
theorem dX8_set_15 : decode cX8_set 15 = .ok (.ifCond .eq 9, 3) := by decide +kernel
theorem dX8_set_18 : decode cX8_set 18 = .ok (.aload_n 0, 1) := by decide +kernel
theorem dX8_set_19 : decode cX8_set 19 = .ok (.iconst 1, 1) := by decide +kernel
theorem dX8_set_20 : decode cX8_set 20 = .ok (.invokevirtual 68, 3) := by decide +kernel
theorem dX8_set_23 : decode cX8_set 23 = .ok (.ireturn, 1) := by decide +kernel
theorem dX8_set_24 : decode cX8_set 24 = .ok (.iload_n 2, 1) := by decide +kernel
theorem dX8_set_25 : decode cX8_set 25 = .ok (.iconst 0, 1) := by decide +kernel
theorem dX8_set_26 : decode cX8_set 26 = .ok (.aload_n 0, 1) := by decide +kernel
theorem dX8_set_27 : decode cX8_set 27 = .ok (.getfield 13, 3) := by decide +kernel
theorem dX8_set_30 : decode cX8_set 30 = .ok (.iload_n 1, 1) := by decide +kernel
theorem dX8_set_31 : decode cX8_set 31 = .ok (.iaload, 1) := by decide +kernel
theorem dX8_set_32 : decode cX8_set 32 = .ok (.iconst 1, 1) := by decide +kernel
theorem dX8_set_33 : decode cX8_set 33 = .ok (.isub, 1) := by decide +kernel
theorem dX8_set_34 : decode cX8_set 34 = .ok (.invokestatic 59, 3) := by decide +kernel
theorem dX8_set_37 : decode cX8_set 37 = .ok (.ifCond .ne 9, 3) := by decide +kernel
theorem dX8_set_40 : decode cX8_set 40 = .ok (.aload_n 0, 1) := by decide +kernel
theorem dX8_set_41 : decode cX8_set 41 = .ok (.iconst 2, 1) := by decide +kernel
theorem dX8_set_42 : decode cX8_set 42 = .ok (.invokevirtual 68, 3) := by decide +kernel
theorem dX8_set_45 : decode cX8_set 45 = .ok (.ireturn, 1) := by decide +kernel
theorem dX8_set_46 : decode cX8_set 46 = .ok (.aload_n 0, 1) := by decide +kernel
theorem dX8_set_47 : decode cX8_set 47 = .ok (.getfield 16, 3) := by decide +kernel
theorem dX8_set_50 : decode cX8_set 50 = .ok (.bipush 40, 2) := by decide +kernel
theorem dX8_set_52 : decode cX8_set 52 = .ok (.iload_n 1, 1) := by decide +kernel
theorem dX8_set_53 : decode cX8_set 53 = .ok (.imul, 1) := by decide +kernel
theorem dX8_set_54 : decode cX8_set 54 = .ok (.iload_n 2, 1) := by decide +kernel
theorem dX8_set_55 : decode cX8_set 55 = .ok (.iadd, 1) := by decide +kernel
theorem dX8_set_56 : decode cX8_set 56 = .ok (.aload_n 0, 1) := by decide +kernel
theorem dX8_set_57 : decode cX8_set 57 = .ok (.getfield 7, 3) := by decide +kernel
theorem dX8_set_60 : decode cX8_set 60 = .ok (.iload_n 1, 1) := by decide +kernel
theorem dX8_set_61 : decode cX8_set 61 = .ok (.iaload, 1) := by decide +kernel
theorem dX8_set_62 : decode cX8_set 62 = .ok (.iload_n 3, 1) := by decide +kernel
theorem dX8_set_63 : decode cX8_set 63 = .ok (.invokestatic 78, 3) := by decide +kernel
theorem dX8_set_66 : decode cX8_set 66 = .ok (.iastore, 1) := by decide +kernel
theorem dX8_set_67 : decode cX8_set 67 = .ok (.aload_n 0, 1) := by decide +kernel
theorem dX8_set_68 : decode cX8_set 68 = .ok (.aload_n 0, 1) := by decide +kernel
theorem dX8_set_69 : decode cX8_set 69 = .ok (.getfield 16, 3) := by decide +kernel
theorem dX8_set_72 : decode cX8_set 72 = .ok (.bipush 40, 2) := by decide +kernel
theorem dX8_set_74 : decode cX8_set 74 = .ok (.iload_n 1, 1) := by decide +kernel
theorem dX8_set_75 : decode cX8_set 75 = .ok (.imul, 1) := by decide +kernel
theorem dX8_set_76 : decode cX8_set 76 = .ok (.iload_n 2, 1) := by decide +kernel
theorem dX8_set_77 : decode cX8_set 77 = .ok (.iadd, 1) := by decide +kernel
theorem dX8_set_78 : decode cX8_set 78 = .ok (.iaload, 1) := by decide +kernel
theorem dX8_set_79 : decode cX8_set 79 = .ok (.invokevirtual 72, 3) := by decide +kernel
theorem dX8_set_82 : decode cX8_set 82 = .ok (.ireturn, 1) := by decide +kernel
theorem dX8_isPart_0 : decode cX8_isPart 0 = .ok (.iload_n 2, 1) := by decide +kernel
theorem dX8_isPart_1 : decode cX8_isPart 1 = .ok (.ifCond .lt 33, 3) := by decide +kernel
theorem dX8_isPart_4 : decode cX8_isPart 4 = .ok (.iload_n 3, 1) := by decide +kernel
theorem dX8_isPart_5 : decode cX8_isPart 5 = .ok (.ifCond .lt 29, 3) := by decide +kernel
theorem dX8_isPart_8 : decode cX8_isPart 8 = .ok (.iload_n 2, 1) := by decide +kernel
theorem dX8_isPart_9 : decode cX8_isPart 9 = .ok (.aload_n 0, 1) := by decide +kernel
theorem dX8_isPart_10 : decode cX8_isPart 10 = .ok (.getfield 13, 3) := by decide +kernel
theorem dX8_isPart_13 : decode cX8_isPart 13 = .ok (.iload_n 1, 1) := by decide +kernel
theorem dX8_isPart_14 : decode cX8_isPart 14 = .ok (.iaload, 1) := by decide +kernel
theorem dX8_isPart_15 : decode cX8_isPart 15 = .ok (.if_icmp .gt 19, 3) := by decide +kernel
theorem dX8_isPart_18 : decode cX8_isPart 18 = .ok (.iload_n 3, 1) := by decide +kernel
theorem dX8_isPart_19 : decode cX8_isPart 19 = .ok (.aload_n 0, 1) := by decide +kernel
theorem dX8_isPart_20 : decode cX8_isPart 20 = .ok (.getfield 13, 3) := by decide +kernel
theorem dX8_isPart_23 : decode cX8_isPart 23 = .ok (.iload_n 1, 1) := by decide +kernel
theorem dX8_isPart_24 : decode cX8_isPart 24 = .ok (.iaload, 1) := by decide +kernel
theorem dX8_isPart_25 : decode cX8_isPart 25 = .ok (.iload_n 2, 1) := by decide +kernel
theorem dX8_isPart_26 : decode cX8_isPart 26 = .ok (.isub, 1) := by decide +kernel
theorem dX8_isPart_27 : decode cX8_isPart 27 = .ok (.if_icmp .gt 7, 3) := by decide +kernel
theorem dX8_isPart_30 : decode cX8_isPart 30 = .ok (.iconst 1, 1) := by decide +kernel
theorem dX8_isPart_31 : decode cX8_isPart 31 = .ok (.goto 4, 3) := by decide +kernel
theorem dX8_isPart_34 : decode cX8_isPart 34 = .ok (.iconst 0, 1) := by decide +kernel
theorem dX8_isPart_35 : decode cX8_isPart 35 = .ok (.ireturn, 1) := by decide +kernel
theorem dX8_copy_0 : decode cX8_copy 0 = .ok (.iload_n 1, 1) := by decide +kernel
theorem dX8_copy_1 : decode cX8_copy 1 = .ok (.invokestatic 63, 3) := by decide +kernel
theorem dX8_copy_4 : decode cX8_copy 4 = .ok (.ifCond .eq 10, 3) := by decide +kernel
theorem dX8_copy_7 : decode cX8_copy 7 = .ok (.iload_n 3, 1) := by decide +kernel
theorem dX8_copy_8 : decode cX8_copy 8 = .ok (.invokestatic 63, 3) := by decide +kernel
theorem dX8_copy_11 : decode cX8_copy 11 = .ok (.ifCond .ne 6, 3) := by decide +kernel
theorem dX8_copy_14 : decode cX8_copy 14 = .ok (.ldc 67, 2) := by decide +kernel
theorem dX8_copy_16 : decode cX8_copy 16 = .ok (.ireturn, 1) := by decide +kernel
theorem dX8_copy_17 : decode cX8_copy 17 = .ok (.aload_n 0, 1) := by decide +kernel
theorem dX8_copy_18 : decode cX8_copy 18 = .ok (.iload_n 1, 1) := by decide +kernel
theorem dX8_copy_19 : decode cX8_copy 19 = .ok (.invokevirtual 75, 3) := by decide +kernel
theorem dX8_copy_22 : decode cX8_copy 22 = .ok (.ifCond .ne 11, 3) := by decide +kernel
theorem dX8_copy_25 : decode cX8_copy 25 = .ok (.aload_n 0, 1) := by decide +kernel
theorem dX8_copy_26 : decode cX8_copy 26 = .ok (.iload_n 3, 1) := by decide +kernel
theorem dX8_copy_27 : decode cX8_copy 27 = .ok (.invokevirtual 75, 3) := by decide +kernel
theorem dX8_copy_30 : decode cX8_copy 30 = .ok (.ifCond .eq 9, 3) := by decide +kernel
theorem dX8_copy_33 : decode cX8_copy 33 = .ok (.aload_n 0, 1) := by decide +kernel
theorem dX8_copy_34 : decode cX8_copy 34 = .ok (.iconst 1, 1) := by decide +kernel
theorem dX8_copy_35 : decode cX8_copy 35 = .ok (.invokevirtual 68, 3) := by decide +kernel
theorem dX8_copy_38 : decode cX8_copy 38 = .ok (.ireturn, 1) := by decide +kernel
theorem dX8_copy_39 : decode cX8_copy 39 = .ok (.aload_n 0, 1) := by decide +kernel
theorem dX8_copy_40 : decode cX8_copy 40 = .ok (.getfield 7, 3) := by decide +kernel
theorem dX8_copy_43 : decode cX8_copy 43 = .ok (.iload_n 1, 1) := by decide +kernel
theorem dX8_copy_44 : decode cX8_copy 44 = .ok (.iaload, 1) := by decide +kernel
theorem dX8_copy_45 : decode cX8_copy 45 = .ok (.aload_n 0, 1) := by decide +kernel
theorem dX8_copy_46 : decode cX8_copy 46 = .ok (.getfield 7, 3) := by decide +kernel
theorem dX8_copy_49 : decode cX8_copy 49 = .ok (.iload_n 3, 1) := by decide +kernel
theorem dX8_copy_50 : decode cX8_copy 50 = .ok (.iaload, 1) := by decide +kernel
theorem dX8_copy_51 : decode cX8_copy 51 = .ok (.if_icmp .eq 9, 3) := by decide +kernel
theorem dX8_copy_54 : decode cX8_copy 54 = .ok (.aload_n 0, 1) := by decide +kernel
theorem dX8_copy_55 : decode cX8_copy 55 = .ok (.iconst 5, 1) := by decide +kernel
theorem dX8_copy_56 : decode cX8_copy 56 = .ok (.invokevirtual 68, 3) := by decide +kernel
theorem dX8_copy_59 : decode cX8_copy 59 = .ok (.ireturn, 1) := by decide +kernel
theorem dX8_copy_60 : decode cX8_copy 60 = .ok (.aload_n 0, 1) := by decide +kernel
theorem dX8_copy_61 : decode cX8_copy 61 = .ok (.iload_n 1, 1) := by decide +kernel
theorem dX8_copy_62 : decode cX8_copy 62 = .ok (.iload_n 2, 1) := by decide +kernel
theorem dX8_copy_63 : decode cX8_copy 63 = .ok (.iload 5, 2) := by decide +kernel
theorem dX8_copy_65 : decode cX8_copy 65 = .ok (.invokevirtual 82, 3) := by decide +kernel
theorem dX8_copy_68 : decode cX8_copy 68 = .ok (.ifCond .eq 15, 3) := by decide +kernel
theorem dX8_copy_71 : decode cX8_copy 71 = .ok (.aload_n 0, 1) := by decide +kernel
theorem dX8_copy_72 : decode cX8_copy 72 = .ok (.iload_n 3, 1) := by decide +kernel
theorem dX8_copy_73 : decode cX8_copy 73 = .ok (.iload 4, 2) := by decide +kernel
theorem dX8_copy_75 : decode cX8_copy 75 = .ok (.iload 5, 2) := by decide +kernel
theorem dX8_copy_77 : decode cX8_copy 77 = .ok (.invokevirtual 82, 3) := by decide +kernel
theorem dX8_copy_80 : decode cX8_copy 80 = .ok (.ifCond .ne 9, 3) := by decide +kernel
theorem dX8_copy_83 : decode cX8_copy 83 = .ok (.aload_n 0, 1) := by decide +kernel
theorem dX8_copy_84 : decode cX8_copy 84 = .ok (.iconst 2, 1) := by decide +kernel
theorem dX8_copy_85 : decode cX8_copy 85 = .ok (.invokevirtual 68, 3) := by decide +kernel
theorem dX8_copy_88 : decode cX8_copy 88 = .ok (.ireturn, 1) := by decide +kernel
theorem dX8_copy_89 : decode cX8_copy 89 = .ok (.iconst 0, 1) := by decide +kernel
theorem dX8_copy_90 : decode cX8_copy 90 = .ok (.istore 6, 2) := by decide +kernel
theorem dX8_copy_92 : decode cX8_copy 92 = .ok (.iload 6, 2) := by decide +kernel
theorem dX8_copy_94 : decode cX8_copy 94 = .ok (.iload 5, 2) := by decide +kernel
theorem dX8_copy_96 : decode cX8_copy 96 = .ok (.if_icmp .ge 30, 3) := by decide +kernel
theorem dX8_copy_99 : decode cX8_copy 99 = .ok (.aload_n 0, 1) := by decide +kernel
theorem dX8_copy_100 : decode cX8_copy 100 = .ok (.getfield 19, 3) := by decide +kernel
theorem dX8_copy_103 : decode cX8_copy 103 = .ok (.iload 6, 2) := by decide +kernel
theorem dX8_copy_105 : decode cX8_copy 105 = .ok (.aload_n 0, 1) := by decide +kernel
theorem dX8_copy_106 : decode cX8_copy 106 = .ok (.getfield 16, 3) := by decide +kernel
theorem dX8_copy_109 : decode cX8_copy 109 = .ok (.bipush 40, 2) := by decide +kernel
theorem dX8_copy_111 : decode cX8_copy 111 = .ok (.iload_n 1, 1) := by decide +kernel
theorem dX8_copy_112 : decode cX8_copy 112 = .ok (.imul, 1) := by decide +kernel
theorem dX8_copy_113 : decode cX8_copy 113 = .ok (.iload_n 2, 1) := by decide +kernel
theorem dX8_copy_114 : decode cX8_copy 114 = .ok (.iadd, 1) := by decide +kernel
theorem dX8_copy_115 : decode cX8_copy 115 = .ok (.iload 6, 2) := by decide +kernel
theorem dX8_copy_117 : decode cX8_copy 117 = .ok (.iadd, 1) := by decide +kernel
theorem dX8_copy_118 : decode cX8_copy 118 = .ok (.iaload, 1) := by decide +kernel
theorem dX8_copy_119 : decode cX8_copy 119 = .ok (.iastore, 1) := by decide +kernel
theorem dX8_copy_120 : decode cX8_copy 120 = .ok (.iinc 6 1, 3) := by decide +kernel
theorem dX8_copy_123 : decode cX8_copy 123 = .ok (.goto (-31), 3) := by decide +kernel
theorem dX8_copy_126 : decode cX8_copy 126 = .ok (.iconst 0, 1) := by decide +kernel
theorem dX8_copy_127 : decode cX8_copy 127 = .ok (.istore 6, 2) := by decide +kernel
theorem dX8_copy_129 : decode cX8_copy 129 = .ok (.iload 6, 2) := by decide +kernel
theorem dX8_copy_131 : decode cX8_copy 131 = .ok (.iload 5, 2) := by decide +kernel
theorem dX8_copy_133 : decode cX8_copy 133 = .ok (.if_icmp .ge 31, 3) := by decide +kernel
theorem dX8_copy_136 : decode cX8_copy 136 = .ok (.aload_n 0, 1) := by decide +kernel
theorem dX8_copy_137 : decode cX8_copy 137 = .ok (.getfield 16, 3) := by decide +kernel
theorem dX8_copy_140 : decode cX8_copy 140 = .ok (.bipush 40, 2) := by decide +kernel
theorem dX8_copy_142 : decode cX8_copy 142 = .ok (.iload_n 3, 1) := by decide +kernel
theorem dX8_copy_143 : decode cX8_copy 143 = .ok (.imul, 1) := by decide +kernel
theorem dX8_copy_144 : decode cX8_copy 144 = .ok (.iload 4, 2) := by decide +kernel
theorem dX8_copy_146 : decode cX8_copy 146 = .ok (.iadd, 1) := by decide +kernel
theorem dX8_copy_147 : decode cX8_copy 147 = .ok (.iload 6, 2) := by decide +kernel
theorem dX8_copy_149 : decode cX8_copy 149 = .ok (.iadd, 1) := by decide +kernel
theorem dX8_copy_150 : decode cX8_copy 150 = .ok (.aload_n 0, 1) := by decide +kernel
theorem dX8_copy_151 : decode cX8_copy 151 = .ok (.getfield 19, 3) := by decide +kernel
theorem dX8_copy_154 : decode cX8_copy 154 = .ok (.iload 6, 2) := by decide +kernel
theorem dX8_copy_156 : decode cX8_copy 156 = .ok (.iaload, 1) := by decide +kernel
theorem dX8_copy_157 : decode cX8_copy 157 = .ok (.iastore, 1) := by decide +kernel
theorem dX8_copy_158 : decode cX8_copy 158 = .ok (.iinc 6 1, 3) := by decide +kernel
theorem dX8_copy_161 : decode cX8_copy 161 = .ok (.goto (-32), 3) := by decide +kernel
theorem dX8_copy_164 : decode cX8_copy 164 = .ok (.aload_n 0, 1) := by decide +kernel
theorem dX8_copy_165 : decode cX8_copy 165 = .ok (.iload 5, 2) := by decide +kernel
theorem dX8_copy_167 : decode cX8_copy 167 = .ok (.invokevirtual 72, 3) := by decide +kernel
theorem dX8_copy_170 : decode cX8_copy 170 = .ok (.ireturn, 1) := by decide +kernel
theorem dX8_drop_0 : decode cX8_drop 0 = .ok (.iload_n 1, 1) := by decide +kernel
theorem dX8_drop_1 : decode cX8_drop 1 = .ok (.invokestatic 63, 3) := by decide +kernel
theorem dX8_drop_4 : decode cX8_drop 4 = .ok (.ifCond .ne 6, 3) := by decide +kernel
theorem dX8_drop_7 : decode cX8_drop 7 = .ok (.ldc 67, 2) := by decide +kernel
theorem dX8_drop_9 : decode cX8_drop 9 = .ok (.ireturn, 1) := by decide +kernel
theorem dX8_drop_10 : decode cX8_drop 10 = .ok (.aload_n 0, 1) := by decide +kernel
theorem dX8_drop_11 : decode cX8_drop 11 = .ok (.iload_n 1, 1) := by decide +kernel
theorem dX8_drop_12 : decode cX8_drop 12 = .ok (.invokevirtual 75, 3) := by decide +kernel
theorem dX8_drop_15 : decode cX8_drop 15 = .ok (.ifCond .eq 9, 3) := by decide +kernel
theorem dX8_drop_18 : decode cX8_drop 18 = .ok (.aload_n 0, 1) := by decide +kernel
theorem dX8_drop_19 : decode cX8_drop 19 = .ok (.iconst 1, 1) := by decide +kernel
theorem dX8_drop_20 : decode cX8_drop 20 = .ok (.invokevirtual 68, 3) := by decide +kernel
theorem dX8_drop_23 : decode cX8_drop 23 = .ok (.ireturn, 1) := by decide +kernel
theorem dX8_drop_24 : decode cX8_drop 24 = .ok (.aload_n 0, 1) := by decide +kernel
theorem dX8_drop_25 : decode cX8_drop 25 = .ok (.getfield 7, 3) := by decide +kernel
theorem dX8_drop_28 : decode cX8_drop 28 = .ok (.iload_n 1, 1) := by decide +kernel
theorem dX8_drop_29 : decode cX8_drop 29 = .ok (.ldc 53, 2) := by decide +kernel
theorem dX8_drop_31 : decode cX8_drop 31 = .ok (.iastore, 1) := by decide +kernel
theorem dX8_drop_32 : decode cX8_drop 32 = .ok (.aload_n 0, 1) := by decide +kernel
theorem dX8_drop_33 : decode cX8_drop 33 = .ok (.aload_n 0, 1) := by decide +kernel
theorem dX8_drop_34 : decode cX8_drop 34 = .ok (.getfield 13, 3) := by decide +kernel
theorem dX8_drop_37 : decode cX8_drop 37 = .ok (.iload_n 1, 1) := by decide +kernel
theorem dX8_drop_38 : decode cX8_drop 38 = .ok (.iaload, 1) := by decide +kernel
theorem dX8_drop_39 : decode cX8_drop 39 = .ok (.invokevirtual 72, 3) := by decide +kernel
theorem dX8_drop_42 : decode cX8_drop 42 = .ok (.ireturn, 1) := by decide +kernel
theorem dX8_feed_0 : decode cX8_feed 0 = .ok (.iload_n 1, 1) := by decide +kernel
theorem dX8_feed_1 : decode cX8_feed 1 = .ok (.iconst 0, 1) := by decide +kernel
theorem dX8_feed_2 : decode cX8_feed 2 = .ok (.sipush 255, 3) := by decide +kernel
theorem dX8_feed_5 : decode cX8_feed 5 = .ok (.invokestatic 59, 3) := by decide +kernel
theorem dX8_feed_8 : decode cX8_feed 8 = .ok (.ifCond .ne 6, 3) := by decide +kernel
theorem dX8_feed_11 : decode cX8_feed 11 = .ok (.ldc 67, 2) := by decide +kernel
theorem dX8_feed_13 : decode cX8_feed 13 = .ok (.ireturn, 1) := by decide +kernel
theorem dX8_feed_14 : decode cX8_feed 14 = .ok (.aload_n 0, 1) := by decide +kernel
theorem dX8_feed_15 : decode cX8_feed 15 = .ok (.getfield 85, 3) := by decide +kernel
theorem dX8_feed_18 : decode cX8_feed 18 = .ok (.bipush 100, 2) := by decide +kernel
theorem dX8_feed_20 : decode cX8_feed 20 = .ok (.if_icmp .ne 6, 3) := by decide +kernel
theorem dX8_feed_23 : decode cX8_feed 23 = .ok (.ldc 88, 2) := by decide +kernel
theorem dX8_feed_25 : decode cX8_feed 25 = .ok (.ireturn, 1) := by decide +kernel
theorem dX8_feed_26 : decode cX8_feed 26 = .ok (.aload_n 0, 1) := by decide +kernel
theorem dX8_feed_27 : decode cX8_feed 27 = .ok (.getfield 22, 3) := by decide +kernel
theorem dX8_feed_30 : decode cX8_feed 30 = .ok (.aload_n 0, 1) := by decide +kernel
theorem dX8_feed_31 : decode cX8_feed 31 = .ok (.getfield 85, 3) := by decide +kernel
theorem dX8_feed_34 : decode cX8_feed 34 = .ok (.iload_n 1, 1) := by decide +kernel
theorem dX8_feed_35 : decode cX8_feed 35 = .ok (.iastore, 1) := by decide +kernel
theorem dX8_feed_36 : decode cX8_feed 36 = .ok (.aload_n 0, 1) := by decide +kernel
theorem dX8_feed_37 : decode cX8_feed 37 = .ok (.dup, 1) := by decide +kernel
theorem dX8_feed_38 : decode cX8_feed 38 = .ok (.getfield 85, 3) := by decide +kernel
theorem dX8_feed_41 : decode cX8_feed 41 = .ok (.iconst 1, 1) := by decide +kernel
theorem dX8_feed_42 : decode cX8_feed 42 = .ok (.iadd, 1) := by decide +kernel
theorem dX8_feed_43 : decode cX8_feed 43 = .ok (.putfield 85, 3) := by decide +kernel
theorem dX8_feed_46 : decode cX8_feed 46 = .ok (.aload_n 0, 1) := by decide +kernel
theorem dX8_feed_47 : decode cX8_feed 47 = .ok (.getfield 85, 3) := by decide +kernel
theorem dX8_feed_50 : decode cX8_feed 50 = .ok (.ireturn, 1) := by decide +kernel
theorem dX8_byteAt_0 : decode cX8_byteAt 0 = .ok (.iload_n 1, 1) := by decide +kernel
theorem dX8_byteAt_1 : decode cX8_byteAt 1 = .ok (.aload_n 0, 1) := by decide +kernel
theorem dX8_byteAt_2 : decode cX8_byteAt 2 = .ok (.getfield 85, 3) := by decide +kernel
theorem dX8_byteAt_5 : decode cX8_byteAt 5 = .ok (.if_icmp .ge 12, 3) := by decide +kernel
theorem dX8_byteAt_8 : decode cX8_byteAt 8 = .ok (.aload_n 0, 1) := by decide +kernel
theorem dX8_byteAt_9 : decode cX8_byteAt 9 = .ok (.getfield 22, 3) := by decide +kernel
theorem dX8_byteAt_12 : decode cX8_byteAt 12 = .ok (.iload_n 1, 1) := by decide +kernel
theorem dX8_byteAt_13 : decode cX8_byteAt 13 = .ok (.iaload, 1) := by decide +kernel
theorem dX8_byteAt_14 : decode cX8_byteAt 14 = .ok (.goto 4, 3) := by decide +kernel
theorem dX8_byteAt_17 : decode cX8_byteAt 17 = .ok (.iconst (-1), 1) := by decide +kernel
theorem dX8_byteAt_18 : decode cX8_byteAt 18 = .ok (.ireturn, 1) := by decide +kernel
theorem dX8_advances_0 : decode cX8_advances 0 = .ok (.aload_n 0, 1) := by decide +kernel
theorem dX8_advances_1 : decode cX8_advances 1 = .ok (.aload_n 0, 1) := by decide +kernel
theorem dX8_advances_2 : decode cX8_advances 2 = .ok (.getfield 89, 3) := by decide +kernel
theorem dX8_advances_5 : decode cX8_advances 5 = .ok (.putfield 92, 3) := by decide +kernel
theorem dX8_advances_8 : decode cX8_advances 8 = .ok (.aload_n 0, 1) := by decide +kernel
theorem dX8_advances_9 : decode cX8_advances 9 = .ok (.aload_n 0, 1) := by decide +kernel
theorem dX8_advances_10 : decode cX8_advances 10 = .ok (.getfield 89, 3) := by decide +kernel
theorem dX8_advances_13 : decode cX8_advances 13 = .ok (.invokevirtual 95, 3) := by decide +kernel
theorem dX8_advances_16 : decode cX8_advances 16 = .ok (.istore_n 1, 1) := by decide +kernel
theorem dX8_advances_17 : decode cX8_advances 17 = .ok (.aload_n 0, 1) := by decide +kernel
theorem dX8_advances_18 : decode cX8_advances 18 = .ok (.iload_n 1, 1) := by decide +kernel
theorem dX8_advances_19 : decode cX8_advances 19 = .ok (.putfield 98, 3) := by decide +kernel
theorem dX8_advances_22 : decode cX8_advances 22 = .ok (.iload_n 1, 1) := by decide +kernel
theorem dX8_advances_23 : decode cX8_advances 23 = .ok (.bipush 48, 2) := by decide +kernel
theorem dX8_advances_25 : decode cX8_advances 25 = .ok (.bipush 57, 2) := by decide +kernel
theorem dX8_advances_27 : decode cX8_advances 27 = .ok (.invokestatic 59, 3) := by decide +kernel
theorem dX8_advances_30 : decode cX8_advances 30 = .ok (.ifCond .eq 105, 3) := by decide +kernel
theorem dX8_advances_33 : decode cX8_advances 33 = .ok (.aload_n 0, 1) := by decide +kernel
theorem dX8_advances_34 : decode cX8_advances 34 = .ok (.iconst 0, 1) := by decide +kernel
theorem dX8_advances_35 : decode cX8_advances 35 = .ok (.putfield 98, 3) := by decide +kernel
theorem dX8_advances_38 : decode cX8_advances 38 = .ok (.aload_n 0, 1) := by decide +kernel
theorem dX8_advances_39 : decode cX8_advances 39 = .ok (.aload_n 0, 1) := by decide +kernel
theorem dX8_advances_40 : decode cX8_advances 40 = .ok (.getfield 89, 3) := by decide +kernel
theorem dX8_advances_43 : decode cX8_advances 43 = .ok (.invokevirtual 95, 3) := by decide +kernel
theorem dX8_advances_46 : decode cX8_advances 46 = .ok (.bipush 48, 2) := by decide +kernel
theorem dX8_advances_48 : decode cX8_advances 48 = .ok (.bipush 57, 2) := by decide +kernel
theorem dX8_advances_50 : decode cX8_advances 50 = .ok (.invokestatic 59, 3) := by decide +kernel
theorem dX8_advances_53 : decode cX8_advances 53 = .ok (.ifCond .eq 59, 3) := by decide +kernel
theorem dX8_advances_56 : decode cX8_advances 56 = .ok (.aload_n 0, 1) := by decide +kernel
theorem dX8_advances_57 : decode cX8_advances 57 = .ok (.aload_n 0, 1) := by decide +kernel
theorem dX8_advances_58 : decode cX8_advances 58 = .ok (.getfield 89, 3) := by decide +kernel
theorem dX8_advances_61 : decode cX8_advances 61 = .ok (.aload_n 0, 1) := by decide +kernel
theorem dX8_advances_62 : decode cX8_advances 62 = .ok (.getfield 92, 3) := by decide +kernel
theorem dX8_advances_65 : decode cX8_advances 65 = .ok (.isub, 1) := by decide +kernel
theorem dX8_advances_66 : decode cX8_advances 66 = .ok (.iconst 2, 1) := by decide +kernel
theorem dX8_advances_67 : decode cX8_advances 67 = .ok (.if_icmp .ge 25, 3) := by decide +kernel
theorem dX8_advances_70 : decode cX8_advances 70 = .ok (.bipush 10, 2) := by decide +kernel
theorem dX8_advances_72 : decode cX8_advances 72 = .ok (.aload_n 0, 1) := by decide +kernel
theorem dX8_advances_73 : decode cX8_advances 73 = .ok (.getfield 98, 3) := by decide +kernel
theorem dX8_advances_76 : decode cX8_advances 76 = .ok (.imul, 1) := by decide +kernel
theorem dX8_advances_77 : decode cX8_advances 77 = .ok (.aload_n 0, 1) := by decide +kernel
theorem dX8_advances_78 : decode cX8_advances 78 = .ok (.aload_n 0, 1) := by decide +kernel
theorem dX8_advances_79 : decode cX8_advances 79 = .ok (.getfield 89, 3) := by decide +kernel
theorem dX8_advances_82 : decode cX8_advances 82 = .ok (.invokevirtual 95, 3) := by decide +kernel
theorem dX8_advances_85 : decode cX8_advances 85 = .ok (.iadd, 1) := by decide +kernel
theorem dX8_advances_86 : decode cX8_advances 86 = .ok (.bipush 48, 2) := by decide +kernel
theorem dX8_advances_88 : decode cX8_advances 88 = .ok (.isub, 1) := by decide +kernel
theorem dX8_advances_89 : decode cX8_advances 89 = .ok (.goto 7, 3) := by decide +kernel
theorem dX8_advances_92 : decode cX8_advances 92 = .ok (.aload_n 0, 1) := by decide +kernel
theorem dX8_advances_93 : decode cX8_advances 93 = .ok (.getfield 98, 3) := by decide +kernel
theorem dX8_advances_96 : decode cX8_advances 96 = .ok (.putfield 98, 3) := by decide +kernel
theorem dX8_advances_99 : decode cX8_advances 99 = .ok (.aload_n 0, 1) := by decide +kernel
theorem dX8_advances_100 : decode cX8_advances 100 = .ok (.dup, 1) := by decide +kernel
theorem dX8_advances_101 : decode cX8_advances 101 = .ok (.getfield 89, 3) := by decide +kernel
theorem dX8_advances_104 : decode cX8_advances 104 = .ok (.iconst 1, 1) := by decide +kernel
theorem dX8_advances_105 : decode cX8_advances 105 = .ok (.iadd, 1) := by decide +kernel
theorem dX8_advances_106 : decode cX8_advances 106 = .ok (.putfield 89, 3) := by decide +kernel
theorem dX8_advances_109 : decode cX8_advances 109 = .ok (.goto (-71), 3) := by decide +kernel
theorem dX8_advances_112 : decode cX8_advances 112 = .ok (.aload_n 0, 1) := by decide +kernel
theorem dX8_advances_113 : decode cX8_advances 113 = .ok (.aload_n 0, 1) := by decide +kernel
theorem dX8_advances_114 : decode cX8_advances 114 = .ok (.getfield 89, 3) := by decide +kernel
theorem dX8_advances_117 : decode cX8_advances 117 = .ok (.aload_n 0, 1) := by decide +kernel
theorem dX8_advances_118 : decode cX8_advances 118 = .ok (.getfield 92, 3) := by decide +kernel
theorem dX8_advances_121 : decode cX8_advances 121 = .ok (.isub, 1) := by decide +kernel
theorem dX8_advances_122 : decode cX8_advances 122 = .ok (.iconst 3, 1) := by decide +kernel
theorem dX8_advances_123 : decode cX8_advances 123 = .ok (.if_icmp .ge 7, 3) := by decide +kernel
theorem dX8_advances_126 : decode cX8_advances 126 = .ok (.iconst 2, 1) := by decide +kernel
theorem dX8_advances_127 : decode cX8_advances 127 = .ok (.goto 4, 3) := by decide +kernel
theorem dX8_advances_130 : decode cX8_advances 130 = .ok (.iconst 5, 1) := by decide +kernel
theorem dX8_advances_131 : decode cX8_advances 131 = .ok (.putfield 101, 3) := by decide +kernel
theorem dX8_advances_134 : decode cX8_advances 134 = .ok (.return_, 1) := by decide +kernel
theorem dX8_advances_135 : decode cX8_advances 135 = .ok (.aload_n 0, 1) := by decide +kernel
theorem dX8_advances_136 : decode cX8_advances 136 = .ok (.iload_n 1, 1) := by decide +kernel
theorem dX8_advances_137 : decode cX8_advances 137 = .ok (.ifCond .ge 7, 3) := by decide +kernel
theorem dX8_advances_140 : decode cX8_advances 140 = .ok (.iconst 0, 1) := by decide +kernel
theorem dX8_advances_141 : decode cX8_advances 141 = .ok (.goto 39, 3) := by decide +kernel
theorem dX8_advances_144 : decode cX8_advances 144 = .ok (.iload_n 1, 1) := by decide +kernel
theorem dX8_advances_145 : decode cX8_advances 145 = .ok (.bipush 97, 2) := by decide +kernel
theorem dX8_advances_147 : decode cX8_advances 147 = .ok (.bipush 122, 2) := by decide +kernel
theorem dX8_advances_149 : decode cX8_advances 149 = .ok (.invokestatic 59, 3) := by decide +kernel
theorem dX8_advances_152 : decode cX8_advances 152 = .ok (.ifCond .eq 7, 3) := by decide +kernel
theorem dX8_advances_155 : decode cX8_advances 155 = .ok (.iconst 1, 1) := by decide +kernel
theorem dX8_advances_156 : decode cX8_advances 156 = .ok (.goto 24, 3) := by decide +kernel
theorem dX8_advances_159 : decode cX8_advances 159 = .ok (.iload_n 1, 1) := by decide +kernel
theorem dX8_advances_160 : decode cX8_advances 160 = .ok (.bipush 44, 2) := by decide +kernel
theorem dX8_advances_162 : decode cX8_advances 162 = .ok (.if_icmp .ne 7, 3) := by decide +kernel
theorem dX8_advances_165 : decode cX8_advances 165 = .ok (.iconst 3, 1) := by decide +kernel
theorem dX8_advances_166 : decode cX8_advances 166 = .ok (.goto 14, 3) := by decide +kernel
theorem dX8_advances_169 : decode cX8_advances 169 = .ok (.iload_n 1, 1) := by decide +kernel
theorem dX8_advances_170 : decode cX8_advances 170 = .ok (.bipush 59, 2) := by decide +kernel
theorem dX8_advances_172 : decode cX8_advances 172 = .ok (.if_icmp .ne 7, 3) := by decide +kernel
theorem dX8_advances_175 : decode cX8_advances 175 = .ok (.iconst 4, 1) := by decide +kernel
theorem dX8_advances_176 : decode cX8_advances 176 = .ok (.goto 4, 3) := by decide +kernel
theorem dX8_advances_179 : decode cX8_advances 179 = .ok (.iconst 5, 1) := by decide +kernel
theorem dX8_advances_180 : decode cX8_advances 180 = .ok (.putfield 101, 3) := by decide +kernel
theorem dX8_advances_183 : decode cX8_advances 183 = .ok (.aload_n 0, 1) := by decide +kernel
theorem dX8_advances_184 : decode cX8_advances 184 = .ok (.dup, 1) := by decide +kernel
theorem dX8_advances_185 : decode cX8_advances 185 = .ok (.getfield 89, 3) := by decide +kernel
theorem dX8_advances_188 : decode cX8_advances 188 = .ok (.aload_n 0, 1) := by decide +kernel
theorem dX8_advances_189 : decode cX8_advances 189 = .ok (.getfield 101, 3) := by decide +kernel
theorem dX8_advances_192 : decode cX8_advances 192 = .ok (.ifCond .ne 7, 3) := by decide +kernel
theorem dX8_advances_195 : decode cX8_advances 195 = .ok (.iconst 0, 1) := by decide +kernel
theorem dX8_advances_196 : decode cX8_advances 196 = .ok (.goto 4, 3) := by decide +kernel
theorem dX8_advances_199 : decode cX8_advances 199 = .ok (.iconst 1, 1) := by decide +kernel
theorem dX8_advances_200 : decode cX8_advances 200 = .ok (.iadd, 1) := by decide +kernel
theorem dX8_advances_201 : decode cX8_advances 201 = .ok (.putfield 89, 3) := by decide +kernel
theorem dX8_advances_204 : decode cX8_advances 204 = .ok (.return_, 1) := by decide +kernel
theorem dX8_isWell_0 : decode cX8_isWell 0 = .ok (.aload_n 0, 1) := by decide +kernel
theorem dX8_isWell_1 : decode cX8_isWell 1 = .ok (.getfield 104, 3) := by decide +kernel
theorem dX8_isWell_4 : decode cX8_isWell 4 = .ok (.ifCond .ge 7, 3) := by decide +kernel
theorem dX8_isWell_7 : decode cX8_isWell 7 = .ok (.iconst 1, 1) := by decide +kernel
theorem dX8_isWell_8 : decode cX8_isWell 8 = .ok (.goto 4, 3) := by decide +kernel
theorem dX8_isWell_11 : decode cX8_isWell 11 = .ok (.iconst 0, 1) := by decide +kernel
theorem dX8_isWell_12 : decode cX8_isWell 12 = .ok (.ireturn, 1) := by decide +kernel
theorem dX8_takes_0 : decode cX8_takes 0 = .ok (.aload_n 0, 1) := by decide +kernel
theorem dX8_takes_1 : decode cX8_takes 1 = .ok (.invokevirtual 107, 3) := by decide +kernel
theorem dX8_takes_4 : decode cX8_takes 4 = .ok (.ifCond .ne 5, 3) := by decide +kernel
theorem dX8_takes_7 : decode cX8_takes 7 = .ok (.iconst 0, 1) := by decide +kernel
theorem dX8_takes_8 : decode cX8_takes 8 = .ok (.ireturn, 1) := by decide +kernel
theorem dX8_takes_9 : decode cX8_takes 9 = .ok (.iload_n 1, 1) := by decide +kernel
theorem dX8_takes_10 : decode cX8_takes 10 = .ok (.ifCond .ne 18, 3) := by decide +kernel
theorem dX8_takes_13 : decode cX8_takes 13 = .ok (.aload_n 0, 1) := by decide +kernel
theorem dX8_takes_14 : decode cX8_takes 14 = .ok (.aload_n 0, 1) := by decide +kernel
theorem dX8_takes_15 : decode cX8_takes 15 = .ok (.getfield 92, 3) := by decide +kernel
theorem dX8_takes_18 : decode cX8_takes 18 = .ok (.putfield 104, 3) := by decide +kernel
theorem dX8_takes_21 : decode cX8_takes 21 = .ok (.aload_n 0, 1) := by decide +kernel
theorem dX8_takes_22 : decode cX8_takes 22 = .ok (.iload_n 2, 1) := by decide +kernel
theorem dX8_takes_23 : decode cX8_takes 23 = .ok (.putfield 111, 3) := by decide +kernel
theorem dX8_takes_26 : decode cX8_takes 26 = .ok (.iconst 0, 1) := by decide +kernel
theorem dX8_takes_27 : decode cX8_takes 27 = .ok (.ireturn, 1) := by decide +kernel
theorem dX8_takes_28 : decode cX8_takes 28 = .ok (.aload_n 0, 1) := by decide +kernel
theorem dX8_takes_29 : decode cX8_takes 29 = .ok (.getfield 98, 3) := by decide +kernel
theorem dX8_takes_32 : decode cX8_takes 32 = .ok (.istore_n 3, 1) := by decide +kernel
theorem dX8_takes_33 : decode cX8_takes 33 = .ok (.aload_n 0, 1) := by decide +kernel
theorem dX8_takes_34 : decode cX8_takes 34 = .ok (.invokevirtual 114, 3) := by decide +kernel
theorem dX8_takes_37 : decode cX8_takes 37 = .ok (.iload_n 3, 1) := by decide +kernel
theorem dX8_takes_38 : decode cX8_takes 38 = .ok (.ireturn, 1) := by decide +kernel
theorem dX8_figure_0 : decode cX8_figure 0 = .ok (.aload_n 0, 1) := by decide +kernel
theorem dX8_figure_1 : decode cX8_figure 1 = .ok (.invokevirtual 107, 3) := by decide +kernel
theorem dX8_figure_4 : decode cX8_figure 4 = .ok (.ifCond .eq 18, 3) := by decide +kernel
theorem dX8_figure_7 : decode cX8_figure 7 = .ok (.aload_n 0, 1) := by decide +kernel
theorem dX8_figure_8 : decode cX8_figure 8 = .ok (.getfield 101, 3) := by decide +kernel
theorem dX8_figure_11 : decode cX8_figure 11 = .ok (.iconst 2, 1) := by decide +kernel
theorem dX8_figure_12 : decode cX8_figure 12 = .ok (.if_icmp .eq 10, 3) := by decide +kernel
theorem dX8_figure_15 : decode cX8_figure 15 = .ok (.aload_n 0, 1) := by decide +kernel
theorem dX8_figure_16 : decode cX8_figure 16 = .ok (.iconst 0, 1) := by decide +kernel
theorem dX8_figure_17 : decode cX8_figure 17 = .ok (.iconst 1, 1) := by decide +kernel
theorem dX8_figure_18 : decode cX8_figure 18 = .ok (.invokevirtual 117, 3) := by decide +kernel
theorem dX8_figure_21 : decode cX8_figure 21 = .ok (.ireturn, 1) := by decide +kernel
theorem dX8_figure_22 : decode cX8_figure 22 = .ok (.aload_n 0, 1) := by decide +kernel
theorem dX8_figure_23 : decode cX8_figure 23 = .ok (.aload_n 0, 1) := by decide +kernel
theorem dX8_figure_24 : decode cX8_figure 24 = .ok (.getfield 98, 3) := by decide +kernel
theorem dX8_figure_27 : decode cX8_figure 27 = .ok (.iload_n 1, 1) := by decide +kernel
theorem dX8_figure_28 : decode cX8_figure 28 = .ok (.iload_n 2, 1) := by decide +kernel
theorem dX8_figure_29 : decode cX8_figure 29 = .ok (.invokestatic 59, 3) := by decide +kernel
theorem dX8_figure_32 : decode cX8_figure 32 = .ok (.iconst 2, 1) := by decide +kernel
theorem dX8_figure_33 : decode cX8_figure 33 = .ok (.invokevirtual 117, 3) := by decide +kernel
theorem dX8_figure_36 : decode cX8_figure 36 = .ok (.ireturn, 1) := by decide +kernel
theorem dX8_kindOf_0 : decode cX8_kindOf 0 = .ok (.iload_n 0, 1) := by decide +kernel
theorem dX8_kindOf_1 : decode cX8_kindOf 1 = .ok (.bipush 111, 2) := by decide +kernel
theorem dX8_kindOf_3 : decode cX8_kindOf 3 = .ok (.if_icmp .ne 7, 3) := by decide +kernel
theorem dX8_kindOf_6 : decode cX8_kindOf 6 = .ok (.iconst 1, 1) := by decide +kernel
theorem dX8_kindOf_7 : decode cX8_kindOf 7 = .ok (.goto 44, 3) := by decide +kernel
theorem dX8_kindOf_10 : decode cX8_kindOf 10 = .ok (.iload_n 0, 1) := by decide +kernel
theorem dX8_kindOf_11 : decode cX8_kindOf 11 = .ok (.bipush 99, 2) := by decide +kernel
theorem dX8_kindOf_13 : decode cX8_kindOf 13 = .ok (.if_icmp .ne 7, 3) := by decide +kernel
theorem dX8_kindOf_16 : decode cX8_kindOf 16 = .ok (.iconst 2, 1) := by decide +kernel
theorem dX8_kindOf_17 : decode cX8_kindOf 17 = .ok (.goto 34, 3) := by decide +kernel
theorem dX8_kindOf_20 : decode cX8_kindOf 20 = .ok (.iload_n 0, 1) := by decide +kernel
theorem dX8_kindOf_21 : decode cX8_kindOf 21 = .ok (.bipush 117, 2) := by decide +kernel
theorem dX8_kindOf_23 : decode cX8_kindOf 23 = .ok (.if_icmp .ne 7, 3) := by decide +kernel
theorem dX8_kindOf_26 : decode cX8_kindOf 26 = .ok (.iconst 3, 1) := by decide +kernel
theorem dX8_kindOf_27 : decode cX8_kindOf 27 = .ok (.goto 24, 3) := by decide +kernel
theorem dX8_kindOf_30 : decode cX8_kindOf 30 = .ok (.iload_n 0, 1) := by decide +kernel
theorem dX8_kindOf_31 : decode cX8_kindOf 31 = .ok (.bipush 112, 2) := by decide +kernel
theorem dX8_kindOf_33 : decode cX8_kindOf 33 = .ok (.if_icmp .ne 7, 3) := by decide +kernel
theorem dX8_kindOf_36 : decode cX8_kindOf 36 = .ok (.iconst 4, 1) := by decide +kernel
theorem dX8_kindOf_37 : decode cX8_kindOf 37 = .ok (.goto 14, 3) := by decide +kernel
theorem dX8_kindOf_40 : decode cX8_kindOf 40 = .ok (.iload_n 0, 1) := by decide +kernel
theorem dX8_kindOf_41 : decode cX8_kindOf 41 = .ok (.bipush 115, 2) := by decide +kernel
theorem dX8_kindOf_43 : decode cX8_kindOf 43 = .ok (.if_icmp .ne 7, 3) := by decide +kernel
theorem dX8_kindOf_46 : decode cX8_kindOf 46 = .ok (.iconst 5, 1) := by decide +kernel
theorem dX8_kindOf_47 : decode cX8_kindOf 47 = .ok (.goto 4, 3) := by decide +kernel
theorem dX8_kindOf_50 : decode cX8_kindOf 50 = .ok (.iconst 0, 1) := by decide +kernel
theorem dX8_kindOf_51 : decode cX8_kindOf 51 = .ok (.ireturn, 1) := by decide +kernel
theorem dX8_next_0 : decode cX8_next 0 = .ok (.aload_n 0, 1) := by decide +kernel
theorem dX8_next_1 : decode cX8_next 1 = .ok (.aload_n 0, 1) := by decide +kernel
theorem dX8_next_2 : decode cX8_next 2 = .ok (.getfield 101, 3) := by decide +kernel
theorem dX8_next_5 : decode cX8_next 5 = .ok (.iconst 3, 1) := by decide +kernel
theorem dX8_next_6 : decode cX8_next 6 = .ok (.if_icmp .ne 7, 3) := by decide +kernel
theorem dX8_next_9 : decode cX8_next 9 = .ok (.iconst 1, 1) := by decide +kernel
theorem dX8_next_10 : decode cX8_next 10 = .ok (.goto 4, 3) := by decide +kernel
theorem dX8_next_13 : decode cX8_next 13 = .ok (.iconst 0, 1) := by decide +kernel
theorem dX8_next_14 : decode cX8_next 14 = .ok (.iconst 1, 1) := by decide +kernel
theorem dX8_next_15 : decode cX8_next 15 = .ok (.invokevirtual 117, 3) := by decide +kernel
theorem dX8_next_18 : decode cX8_next 18 = .ok (.pop, 1) := by decide +kernel
theorem dX8_next_19 : decode cX8_next 19 = .ok (.aload_n 0, 1) := by decide +kernel
theorem dX8_next_20 : decode cX8_next 20 = .ok (.iload_n 1, 1) := by decide +kernel
theorem dX8_next_21 : decode cX8_next 21 = .ok (.iload_n 2, 1) := by decide +kernel
theorem dX8_next_22 : decode cX8_next 22 = .ok (.invokevirtual 121, 3) := by decide +kernel
theorem dX8_next_25 : decode cX8_next 25 = .ok (.ireturn, 1) := by decide +kernel
theorem dX8_hangOn_0 : decode cX8_hangOn 0 = .ok (.iconst 0, 1) := by decide +kernel
theorem dX8_hangOn_1 : decode cX8_hangOn 1 = .ok (.istore_n 2, 1) := by decide +kernel
theorem dX8_hangOn_2 : decode cX8_hangOn 2 = .ok (.iconst 0, 1) := by decide +kernel
theorem dX8_hangOn_3 : decode cX8_hangOn 3 = .ok (.istore_n 3, 1) := by decide +kernel
theorem dX8_hangOn_4 : decode cX8_hangOn 4 = .ok (.iload_n 3, 1) := by decide +kernel
theorem dX8_hangOn_5 : decode cX8_hangOn 5 = .ok (.aload_n 0, 1) := by decide +kernel
theorem dX8_hangOn_6 : decode cX8_hangOn 6 = .ok (.bipush 12, 2) := by decide +kernel
theorem dX8_hangOn_8 : decode cX8_hangOn 8 = .ok (.iaload, 1) := by decide +kernel
theorem dX8_hangOn_9 : decode cX8_hangOn 9 = .ok (.if_icmp .ge 33, 3) := by decide +kernel
theorem dX8_hangOn_12 : decode cX8_hangOn 12 = .ok (.iload_n 2, 1) := by decide +kernel
theorem dX8_hangOn_13 : decode cX8_hangOn 13 = .ok (.aload_n 0, 1) := by decide +kernel
theorem dX8_hangOn_14 : decode cX8_hangOn 14 = .ok (.bipush 13, 2) := by decide +kernel
theorem dX8_hangOn_16 : decode cX8_hangOn 16 = .ok (.iconst 4, 1) := by decide +kernel
theorem dX8_hangOn_17 : decode cX8_hangOn 17 = .ok (.iload_n 3, 1) := by decide +kernel
theorem dX8_hangOn_18 : decode cX8_hangOn 18 = .ok (.imul, 1) := by decide +kernel
theorem dX8_hangOn_19 : decode cX8_hangOn 19 = .ok (.iadd, 1) := by decide +kernel
theorem dX8_hangOn_20 : decode cX8_hangOn 20 = .ok (.iconst 3, 1) := by decide +kernel
theorem dX8_hangOn_21 : decode cX8_hangOn 21 = .ok (.iadd, 1) := by decide +kernel
theorem dX8_hangOn_22 : decode cX8_hangOn 22 = .ok (.iaload, 1) := by decide +kernel
theorem dX8_hangOn_23 : decode cX8_hangOn 23 = .ok (.iload_n 1, 1) := by decide +kernel
theorem dX8_hangOn_24 : decode cX8_hangOn 24 = .ok (.if_icmp .ne 9, 3) := by decide +kernel
theorem dX8_hangOn_27 : decode cX8_hangOn 27 = .ok (.iconst 1, 1) := by decide +kernel
theorem dX8_hangOn_28 : decode cX8_hangOn 28 = .ok (.iload_n 3, 1) := by decide +kernel
theorem dX8_hangOn_29 : decode cX8_hangOn 29 = .ok (.ishl, 1) := by decide +kernel
theorem dX8_hangOn_30 : decode cX8_hangOn 30 = .ok (.goto 4, 3) := by decide +kernel
theorem dX8_hangOn_33 : decode cX8_hangOn 33 = .ok (.iconst 0, 1) := by decide +kernel
theorem dX8_hangOn_34 : decode cX8_hangOn 34 = .ok (.ior, 1) := by decide +kernel
theorem dX8_hangOn_35 : decode cX8_hangOn 35 = .ok (.istore_n 2, 1) := by decide +kernel
theorem dX8_hangOn_36 : decode cX8_hangOn 36 = .ok (.iinc 3 1, 3) := by decide +kernel
theorem dX8_hangOn_39 : decode cX8_hangOn 39 = .ok (.goto (-35), 3) := by decide +kernel
theorem dX8_hangOn_42 : decode cX8_hangOn 42 = .ok (.iload_n 2, 1) := by decide +kernel
theorem dX8_hangOn_43 : decode cX8_hangOn 43 = .ok (.ireturn, 1) := by decide +kernel
theorem dX8_readsWall_0 : decode cX8_readsWall 0 = .ok (.aload_n 0, 1) := by decide +kernel
theorem dX8_readsWall_1 : decode cX8_readsWall 1 = .ok (.aload_n 0, 1) := by decide +kernel
theorem dX8_readsWall_2 : decode cX8_readsWall 2 = .ok (.getfield 28, 3) := by decide +kernel
theorem dX8_readsWall_5 : decode cX8_readsWall 5 = .ok (.iconst 3, 1) := by decide +kernel
theorem dX8_readsWall_6 : decode cX8_readsWall 6 = .ok (.iaload, 1) := by decide +kernel
theorem dX8_readsWall_7 : decode cX8_readsWall 7 = .ok (.iconst 4, 1) := by decide +kernel
theorem dX8_readsWall_8 : decode cX8_readsWall 8 = .ok (.if_icmp .ge 7, 3) := by decide +kernel
theorem dX8_readsWall_11 : decode cX8_readsWall 11 = .ok (.iconst 1, 1) := by decide +kernel
theorem dX8_readsWall_12 : decode cX8_readsWall 12 = .ok (.goto 4, 3) := by decide +kernel
theorem dX8_readsWall_15 : decode cX8_readsWall 15 = .ok (.iconst 0, 1) := by decide +kernel
theorem dX8_readsWall_16 : decode cX8_readsWall 16 = .ok (.iconst 3, 1) := by decide +kernel
theorem dX8_readsWall_17 : decode cX8_readsWall 17 = .ok (.invokevirtual 117, 3) := by decide +kernel
theorem dX8_readsWall_20 : decode cX8_readsWall 20 = .ok (.pop, 1) := by decide +kernel
theorem dX8_readsWall_21 : decode cX8_readsWall 21 = .ok (.iconst 4, 1) := by decide +kernel
theorem dX8_readsWall_22 : decode cX8_readsWall 22 = .ok (.iconst 2, 1) := by decide +kernel
theorem dX8_readsWall_23 : decode cX8_readsWall 23 = .ok (.aload_n 0, 1) := by decide +kernel
theorem dX8_readsWall_24 : decode cX8_readsWall 24 = .ok (.getfield 28, 3) := by decide +kernel
theorem dX8_readsWall_27 : decode cX8_readsWall 27 = .ok (.iconst 3, 1) := by decide +kernel
theorem dX8_readsWall_28 : decode cX8_readsWall 28 = .ok (.iaload, 1) := by decide +kernel
theorem dX8_readsWall_29 : decode cX8_readsWall 29 = .ok (.iconst 4, 1) := by decide +kernel
theorem dX8_readsWall_30 : decode cX8_readsWall 30 = .ok (.if_icmp .ge 12, 3) := by decide +kernel
theorem dX8_readsWall_33 : decode cX8_readsWall 33 = .ok (.aload_n 0, 1) := by decide +kernel
theorem dX8_readsWall_34 : decode cX8_readsWall 34 = .ok (.getfield 28, 3) := by decide +kernel
theorem dX8_readsWall_37 : decode cX8_readsWall 37 = .ok (.iconst 3, 1) := by decide +kernel
theorem dX8_readsWall_38 : decode cX8_readsWall 38 = .ok (.iaload, 1) := by decide +kernel
theorem dX8_readsWall_39 : decode cX8_readsWall 39 = .ok (.goto 4, 3) := by decide +kernel
theorem dX8_readsWall_42 : decode cX8_readsWall 42 = .ok (.iconst 0, 1) := by decide +kernel
theorem dX8_readsWall_43 : decode cX8_readsWall 43 = .ok (.imul, 1) := by decide +kernel
theorem dX8_readsWall_44 : decode cX8_readsWall 44 = .ok (.iadd, 1) := by decide +kernel
theorem dX8_readsWall_45 : decode cX8_readsWall 45 = .ok (.istore_n 1, 1) := by decide +kernel
theorem dX8_readsWall_46 : decode cX8_readsWall 46 = .ok (.aload_n 0, 1) := by decide +kernel
theorem dX8_readsWall_47 : decode cX8_readsWall 47 = .ok (.iconst 0, 1) := by decide +kernel
theorem dX8_readsWall_48 : decode cX8_readsWall 48 = .ok (.bipush 9, 2) := by decide +kernel
theorem dX8_readsWall_50 : decode cX8_readsWall 50 = .ok (.invokevirtual 121, 3) := by decide +kernel
theorem dX8_readsWall_53 : decode cX8_readsWall 53 = .ok (.istore_n 2, 1) := by decide +kernel
theorem dX8_readsWall_54 : decode cX8_readsWall 54 = .ok (.aload_n 0, 1) := by decide +kernel
theorem dX8_readsWall_55 : decode cX8_readsWall 55 = .ok (.iconst 0, 1) := by decide +kernel
theorem dX8_readsWall_56 : decode cX8_readsWall 56 = .ok (.bipush 9, 2) := by decide +kernel
theorem dX8_readsWall_58 : decode cX8_readsWall 58 = .ok (.invokevirtual 124, 3) := by decide +kernel
theorem dX8_readsWall_61 : decode cX8_readsWall 61 = .ok (.istore_n 3, 1) := by decide +kernel
theorem dX8_readsWall_62 : decode cX8_readsWall 62 = .ok (.aload_n 0, 1) := by decide +kernel
theorem dX8_readsWall_63 : decode cX8_readsWall 63 = .ok (.aload_n 0, 1) := by decide +kernel
theorem dX8_readsWall_64 : decode cX8_readsWall 64 = .ok (.getfield 101, 3) := by decide +kernel
theorem dX8_readsWall_67 : decode cX8_readsWall 67 = .ok (.iconst 4, 1) := by decide +kernel
theorem dX8_readsWall_68 : decode cX8_readsWall 68 = .ok (.if_icmp .ne 7, 3) := by decide +kernel
theorem dX8_readsWall_71 : decode cX8_readsWall 71 = .ok (.iconst 1, 1) := by decide +kernel
theorem dX8_readsWall_72 : decode cX8_readsWall 72 = .ok (.goto 4, 3) := by decide +kernel
theorem dX8_readsWall_75 : decode cX8_readsWall 75 = .ok (.iconst 0, 1) := by decide +kernel
theorem dX8_readsWall_76 : decode cX8_readsWall 76 = .ok (.iconst 1, 1) := by decide +kernel
theorem dX8_readsWall_77 : decode cX8_readsWall 77 = .ok (.invokevirtual 117, 3) := by decide +kernel
theorem dX8_readsWall_80 : decode cX8_readsWall 80 = .ok (.pop, 1) := by decide +kernel
theorem dX8_readsWall_81 : decode cX8_readsWall 81 = .ok (.aload_n 0, 1) := by decide +kernel
theorem dX8_readsWall_82 : decode cX8_readsWall 82 = .ok (.invokevirtual 107, 3) := by decide +kernel
theorem dX8_readsWall_85 : decode cX8_readsWall 85 = .ok (.ifCond .eq 29, 3) := by decide +kernel
theorem dX8_readsWall_88 : decode cX8_readsWall 88 = .ok (.aload_n 0, 1) := by decide +kernel
theorem dX8_readsWall_89 : decode cX8_readsWall 89 = .ok (.getfield 28, 3) := by decide +kernel
theorem dX8_readsWall_92 : decode cX8_readsWall 92 = .ok (.iload_n 1, 1) := by decide +kernel
theorem dX8_readsWall_93 : decode cX8_readsWall 93 = .ok (.iload_n 2, 1) := by decide +kernel
theorem dX8_readsWall_94 : decode cX8_readsWall 94 = .ok (.iastore, 1) := by decide +kernel
theorem dX8_readsWall_95 : decode cX8_readsWall 95 = .ok (.aload_n 0, 1) := by decide +kernel
theorem dX8_readsWall_96 : decode cX8_readsWall 96 = .ok (.getfield 28, 3) := by decide +kernel
theorem dX8_readsWall_99 : decode cX8_readsWall 99 = .ok (.iload_n 1, 1) := by decide +kernel
theorem dX8_readsWall_100 : decode cX8_readsWall 100 = .ok (.iconst 1, 1) := by decide +kernel
theorem dX8_readsWall_101 : decode cX8_readsWall 101 = .ok (.iadd, 1) := by decide +kernel
theorem dX8_readsWall_102 : decode cX8_readsWall 102 = .ok (.iload_n 3, 1) := by decide +kernel
theorem dX8_readsWall_103 : decode cX8_readsWall 103 = .ok (.iastore, 1) := by decide +kernel
theorem dX8_readsWall_104 : decode cX8_readsWall 104 = .ok (.aload_n 0, 1) := by decide +kernel
theorem dX8_readsWall_105 : decode cX8_readsWall 105 = .ok (.getfield 28, 3) := by decide +kernel
theorem dX8_readsWall_108 : decode cX8_readsWall 108 = .ok (.iconst 3, 1) := by decide +kernel
theorem dX8_readsWall_109 : decode cX8_readsWall 109 = .ok (.dup2, 1) := by decide +kernel
theorem dX8_readsWall_110 : decode cX8_readsWall 110 = .ok (.iaload, 1) := by decide +kernel
theorem dX8_readsWall_111 : decode cX8_readsWall 111 = .ok (.iconst 1, 1) := by decide +kernel
theorem dX8_readsWall_112 : decode cX8_readsWall 112 = .ok (.iadd, 1) := by decide +kernel
theorem dX8_readsWall_113 : decode cX8_readsWall 113 = .ok (.iastore, 1) := by decide +kernel
theorem dX8_readsWall_114 : decode cX8_readsWall 114 = .ok (.return_, 1) := by decide +kernel
theorem dX8_wallFigure_0 : decode cX8_wallFigure 0 = .ok (.aload_n 0, 1) := by decide +kernel
theorem dX8_wallFigure_1 : decode cX8_wallFigure 1 = .ok (.invokevirtual 107, 3) := by decide +kernel
theorem dX8_wallFigure_4 : decode cX8_wallFigure 4 = .ok (.ifCond .eq 18, 3) := by decide +kernel
theorem dX8_wallFigure_7 : decode cX8_wallFigure 7 = .ok (.aload_n 0, 1) := by decide +kernel
theorem dX8_wallFigure_8 : decode cX8_wallFigure 8 = .ok (.getfield 101, 3) := by decide +kernel
theorem dX8_wallFigure_11 : decode cX8_wallFigure 11 = .ok (.iconst 2, 1) := by decide +kernel
theorem dX8_wallFigure_12 : decode cX8_wallFigure 12 = .ok (.if_icmp .eq 10, 3) := by decide +kernel
theorem dX8_wallFigure_15 : decode cX8_wallFigure 15 = .ok (.aload_n 0, 1) := by decide +kernel
theorem dX8_wallFigure_16 : decode cX8_wallFigure 16 = .ok (.iconst 0, 1) := by decide +kernel
theorem dX8_wallFigure_17 : decode cX8_wallFigure 17 = .ok (.iconst 1, 1) := by decide +kernel
theorem dX8_wallFigure_18 : decode cX8_wallFigure 18 = .ok (.invokevirtual 117, 3) := by decide +kernel
theorem dX8_wallFigure_21 : decode cX8_wallFigure 21 = .ok (.ireturn, 1) := by decide +kernel
theorem dX8_wallFigure_22 : decode cX8_wallFigure 22 = .ok (.aload_n 0, 1) := by decide +kernel
theorem dX8_wallFigure_23 : decode cX8_wallFigure 23 = .ok (.aload_n 0, 1) := by decide +kernel
theorem dX8_wallFigure_24 : decode cX8_wallFigure 24 = .ok (.getfield 98, 3) := by decide +kernel
theorem dX8_wallFigure_27 : decode cX8_wallFigure 27 = .ok (.iconst 0, 1) := by decide +kernel
theorem dX8_wallFigure_28 : decode cX8_wallFigure 28 = .ok (.aload_n 0, 1) := by decide +kernel
theorem dX8_wallFigure_29 : decode cX8_wallFigure 29 = .ok (.getfield 28, 3) := by decide +kernel
theorem dX8_wallFigure_32 : decode cX8_wallFigure 32 = .ok (.iconst 3, 1) := by decide +kernel
theorem dX8_wallFigure_33 : decode cX8_wallFigure 33 = .ok (.iaload, 1) := by decide +kernel
theorem dX8_wallFigure_34 : decode cX8_wallFigure 34 = .ok (.iconst 1, 1) := by decide +kernel
theorem dX8_wallFigure_35 : decode cX8_wallFigure 35 = .ok (.isub, 1) := by decide +kernel
theorem dX8_wallFigure_36 : decode cX8_wallFigure 36 = .ok (.invokestatic 59, 3) := by decide +kernel
theorem dX8_wallFigure_39 : decode cX8_wallFigure 39 = .ok (.ifCond .eq 30, 3) := by decide +kernel
theorem dX8_wallFigure_42 : decode cX8_wallFigure 42 = .ok (.aload_n 0, 1) := by decide +kernel
theorem dX8_wallFigure_43 : decode cX8_wallFigure 43 = .ok (.getfield 28, 3) := by decide +kernel
theorem dX8_wallFigure_46 : decode cX8_wallFigure 46 = .ok (.aload_n 0, 1) := by decide +kernel
theorem dX8_wallFigure_47 : decode cX8_wallFigure 47 = .ok (.getfield 98, 3) := by decide +kernel
theorem dX8_wallFigure_50 : decode cX8_wallFigure 50 = .ok (.invokestatic 127, 3) := by decide +kernel
theorem dX8_wallFigure_53 : decode cX8_wallFigure 53 = .ok (.invokestatic 131, 3) := by decide +kernel
theorem dX8_wallFigure_56 : decode cX8_wallFigure 56 = .ok (.aload_n 0, 1) := by decide +kernel
theorem dX8_wallFigure_57 : decode cX8_wallFigure 57 = .ok (.getfield 28, 3) := by decide +kernel
theorem dX8_wallFigure_60 : decode cX8_wallFigure 60 = .ok (.iconst 0, 1) := by decide +kernel
theorem dX8_wallFigure_61 : decode cX8_wallFigure 61 = .ok (.iaload, 1) := by decide +kernel
theorem dX8_wallFigure_62 : decode cX8_wallFigure 62 = .ok (.if_icmp .ge 7, 3) := by decide +kernel
theorem dX8_wallFigure_65 : decode cX8_wallFigure 65 = .ok (.iconst 1, 1) := by decide +kernel
theorem dX8_wallFigure_66 : decode cX8_wallFigure 66 = .ok (.goto 4, 3) := by decide +kernel
theorem dX8_wallFigure_69 : decode cX8_wallFigure 69 = .ok (.iconst 0, 1) := by decide +kernel
theorem dX8_wallFigure_70 : decode cX8_wallFigure 70 = .ok (.iconst 2, 1) := by decide +kernel
theorem dX8_wallFigure_71 : decode cX8_wallFigure 71 = .ok (.invokevirtual 117, 3) := by decide +kernel
theorem dX8_wallFigure_74 : decode cX8_wallFigure 74 = .ok (.ireturn, 1) := by decide +kernel
theorem dX8_readsPicture_0 : decode cX8_readsPicture 0 = .ok (.aload_n 0, 1) := by decide +kernel
theorem dX8_readsPicture_1 : decode cX8_readsPicture 1 = .ok (.getfield 98, 3) := by decide +kernel
theorem dX8_readsPicture_4 : decode cX8_readsPicture 4 = .ok (.invokestatic 134, 3) := by decide +kernel
theorem dX8_readsPicture_7 : decode cX8_readsPicture 7 = .ok (.istore_n 1, 1) := by decide +kernel
theorem dX8_readsPicture_8 : decode cX8_readsPicture 8 = .ok (.aload_n 0, 1) := by decide +kernel
theorem dX8_readsPicture_9 : decode cX8_readsPicture 9 = .ok (.aload_n 0, 1) := by decide +kernel
theorem dX8_readsPicture_10 : decode cX8_readsPicture 10 = .ok (.getfield 28, 3) := by decide +kernel
theorem dX8_readsPicture_13 : decode cX8_readsPicture 13 = .ok (.bipush 12, 2) := by decide +kernel
theorem dX8_readsPicture_15 : decode cX8_readsPicture 15 = .ok (.iaload, 1) := by decide +kernel
theorem dX8_readsPicture_16 : decode cX8_readsPicture 16 = .ok (.iconst 5, 1) := by decide +kernel
theorem dX8_readsPicture_17 : decode cX8_readsPicture 17 = .ok (.if_icmp .ge 7, 3) := by decide +kernel
theorem dX8_readsPicture_20 : decode cX8_readsPicture 20 = .ok (.iconst 1, 1) := by decide +kernel
theorem dX8_readsPicture_21 : decode cX8_readsPicture 21 = .ok (.goto 4, 3) := by decide +kernel
theorem dX8_readsPicture_24 : decode cX8_readsPicture 24 = .ok (.iconst 0, 1) := by decide +kernel
theorem dX8_readsPicture_25 : decode cX8_readsPicture 25 = .ok (.iconst 3, 1) := by decide +kernel
theorem dX8_readsPicture_26 : decode cX8_readsPicture 26 = .ok (.invokevirtual 117, 3) := by decide +kernel
theorem dX8_readsPicture_29 : decode cX8_readsPicture 29 = .ok (.pop, 1) := by decide +kernel
theorem dX8_readsPicture_30 : decode cX8_readsPicture 30 = .ok (.bipush 13, 2) := by decide +kernel
theorem dX8_readsPicture_32 : decode cX8_readsPicture 32 = .ok (.iconst 4, 1) := by decide +kernel
theorem dX8_readsPicture_33 : decode cX8_readsPicture 33 = .ok (.aload_n 0, 1) := by decide +kernel
theorem dX8_readsPicture_34 : decode cX8_readsPicture 34 = .ok (.getfield 28, 3) := by decide +kernel
theorem dX8_readsPicture_37 : decode cX8_readsPicture 37 = .ok (.bipush 12, 2) := by decide +kernel
theorem dX8_readsPicture_39 : decode cX8_readsPicture 39 = .ok (.iaload, 1) := by decide +kernel
theorem dX8_readsPicture_40 : decode cX8_readsPicture 40 = .ok (.iconst 5, 1) := by decide +kernel
theorem dX8_readsPicture_41 : decode cX8_readsPicture 41 = .ok (.if_icmp .ge 13, 3) := by decide +kernel
theorem dX8_readsPicture_44 : decode cX8_readsPicture 44 = .ok (.aload_n 0, 1) := by decide +kernel
theorem dX8_readsPicture_45 : decode cX8_readsPicture 45 = .ok (.getfield 28, 3) := by decide +kernel
theorem dX8_readsPicture_48 : decode cX8_readsPicture 48 = .ok (.bipush 12, 2) := by decide +kernel
theorem dX8_readsPicture_50 : decode cX8_readsPicture 50 = .ok (.iaload, 1) := by decide +kernel
theorem dX8_readsPicture_51 : decode cX8_readsPicture 51 = .ok (.goto 4, 3) := by decide +kernel
theorem dX8_readsPicture_54 : decode cX8_readsPicture 54 = .ok (.iconst 0, 1) := by decide +kernel
theorem dX8_readsPicture_55 : decode cX8_readsPicture 55 = .ok (.imul, 1) := by decide +kernel
theorem dX8_readsPicture_56 : decode cX8_readsPicture 56 = .ok (.iadd, 1) := by decide +kernel
theorem dX8_readsPicture_57 : decode cX8_readsPicture 57 = .ok (.istore_n 2, 1) := by decide +kernel
theorem dX8_readsPicture_58 : decode cX8_readsPicture 58 = .ok (.aload_n 0, 1) := by decide +kernel
theorem dX8_readsPicture_59 : decode cX8_readsPicture 59 = .ok (.iconst 1, 1) := by decide +kernel
theorem dX8_readsPicture_60 : decode cX8_readsPicture 60 = .ok (.bipush 9, 2) := by decide +kernel
theorem dX8_readsPicture_62 : decode cX8_readsPicture 62 = .ok (.invokevirtual 121, 3) := by decide +kernel
theorem dX8_readsPicture_65 : decode cX8_readsPicture 65 = .ok (.istore_n 3, 1) := by decide +kernel
theorem dX8_readsPicture_66 : decode cX8_readsPicture 66 = .ok (.aload_n 0, 1) := by decide +kernel
theorem dX8_readsPicture_67 : decode cX8_readsPicture 67 = .ok (.iconst 1, 1) := by decide +kernel
theorem dX8_readsPicture_68 : decode cX8_readsPicture 68 = .ok (.bipush 60, 2) := by decide +kernel
theorem dX8_readsPicture_70 : decode cX8_readsPicture 70 = .ok (.invokevirtual 124, 3) := by decide +kernel
theorem dX8_readsPicture_73 : decode cX8_readsPicture 73 = .ok (.istore 4, 2) := by decide +kernel
theorem dX8_readsPicture_75 : decode cX8_readsPicture 75 = .ok (.aload_n 0, 1) := by decide +kernel
theorem dX8_readsPicture_76 : decode cX8_readsPicture 76 = .ok (.aload_n 0, 1) := by decide +kernel
theorem dX8_readsPicture_77 : decode cX8_readsPicture 77 = .ok (.getfield 101, 3) := by decide +kernel
theorem dX8_readsPicture_80 : decode cX8_readsPicture 80 = .ok (.iconst 3, 1) := by decide +kernel
theorem dX8_readsPicture_81 : decode cX8_readsPicture 81 = .ok (.if_icmp .ne 7, 3) := by decide +kernel
theorem dX8_readsPicture_84 : decode cX8_readsPicture 84 = .ok (.iconst 1, 1) := by decide +kernel
theorem dX8_readsPicture_85 : decode cX8_readsPicture 85 = .ok (.goto 4, 3) := by decide +kernel
theorem dX8_readsPicture_88 : decode cX8_readsPicture 88 = .ok (.iconst 0, 1) := by decide +kernel
theorem dX8_readsPicture_89 : decode cX8_readsPicture 89 = .ok (.iconst 1, 1) := by decide +kernel
theorem dX8_readsPicture_90 : decode cX8_readsPicture 90 = .ok (.invokevirtual 117, 3) := by decide +kernel
theorem dX8_readsPicture_93 : decode cX8_readsPicture 93 = .ok (.pop, 1) := by decide +kernel
theorem dX8_readsPicture_94 : decode cX8_readsPicture 94 = .ok (.aload_n 0, 1) := by decide +kernel
theorem dX8_readsPicture_95 : decode cX8_readsPicture 95 = .ok (.invokevirtual 137, 3) := by decide +kernel
theorem dX8_readsPicture_98 : decode cX8_readsPicture 98 = .ok (.istore 5, 2) := by decide +kernel
theorem dX8_readsPicture_100 : decode cX8_readsPicture 100 = .ok (.aload_n 0, 1) := by decide +kernel
theorem dX8_readsPicture_101 : decode cX8_readsPicture 101 = .ok (.aload_n 0, 1) := by decide +kernel
theorem dX8_readsPicture_102 : decode cX8_readsPicture 102 = .ok (.getfield 101, 3) := by decide +kernel
theorem dX8_readsPicture_105 : decode cX8_readsPicture 105 = .ok (.iconst 4, 1) := by decide +kernel
theorem dX8_readsPicture_106 : decode cX8_readsPicture 106 = .ok (.if_icmp .ne 7, 3) := by decide +kernel
theorem dX8_readsPicture_109 : decode cX8_readsPicture 109 = .ok (.iconst 1, 1) := by decide +kernel
theorem dX8_readsPicture_110 : decode cX8_readsPicture 110 = .ok (.goto 4, 3) := by decide +kernel
theorem dX8_readsPicture_113 : decode cX8_readsPicture 113 = .ok (.iconst 0, 1) := by decide +kernel
theorem dX8_readsPicture_114 : decode cX8_readsPicture 114 = .ok (.iconst 1, 1) := by decide +kernel
theorem dX8_readsPicture_115 : decode cX8_readsPicture 115 = .ok (.invokevirtual 117, 3) := by decide +kernel
theorem dX8_readsPicture_118 : decode cX8_readsPicture 118 = .ok (.pop, 1) := by decide +kernel
theorem dX8_readsPicture_119 : decode cX8_readsPicture 119 = .ok (.aload_n 0, 1) := by decide +kernel
theorem dX8_readsPicture_120 : decode cX8_readsPicture 120 = .ok (.invokevirtual 107, 3) := by decide +kernel
theorem dX8_readsPicture_123 : decode cX8_readsPicture 123 = .ok (.ifCond .eq 50, 3) := by decide +kernel
theorem dX8_readsPicture_126 : decode cX8_readsPicture 126 = .ok (.aload_n 0, 1) := by decide +kernel
theorem dX8_readsPicture_127 : decode cX8_readsPicture 127 = .ok (.getfield 28, 3) := by decide +kernel
theorem dX8_readsPicture_130 : decode cX8_readsPicture 130 = .ok (.iload_n 2, 1) := by decide +kernel
theorem dX8_readsPicture_131 : decode cX8_readsPicture 131 = .ok (.iload_n 1, 1) := by decide +kernel
theorem dX8_readsPicture_132 : decode cX8_readsPicture 132 = .ok (.iastore, 1) := by decide +kernel
theorem dX8_readsPicture_133 : decode cX8_readsPicture 133 = .ok (.aload_n 0, 1) := by decide +kernel
theorem dX8_readsPicture_134 : decode cX8_readsPicture 134 = .ok (.getfield 28, 3) := by decide +kernel
theorem dX8_readsPicture_137 : decode cX8_readsPicture 137 = .ok (.iload_n 2, 1) := by decide +kernel
theorem dX8_readsPicture_138 : decode cX8_readsPicture 138 = .ok (.iconst 1, 1) := by decide +kernel
theorem dX8_readsPicture_139 : decode cX8_readsPicture 139 = .ok (.iadd, 1) := by decide +kernel
theorem dX8_readsPicture_140 : decode cX8_readsPicture 140 = .ok (.iload_n 3, 1) := by decide +kernel
theorem dX8_readsPicture_141 : decode cX8_readsPicture 141 = .ok (.iastore, 1) := by decide +kernel
theorem dX8_readsPicture_142 : decode cX8_readsPicture 142 = .ok (.aload_n 0, 1) := by decide +kernel
theorem dX8_readsPicture_143 : decode cX8_readsPicture 143 = .ok (.getfield 28, 3) := by decide +kernel
theorem dX8_readsPicture_146 : decode cX8_readsPicture 146 = .ok (.iload_n 2, 1) := by decide +kernel
theorem dX8_readsPicture_147 : decode cX8_readsPicture 147 = .ok (.iconst 2, 1) := by decide +kernel
theorem dX8_readsPicture_148 : decode cX8_readsPicture 148 = .ok (.iadd, 1) := by decide +kernel
theorem dX8_readsPicture_149 : decode cX8_readsPicture 149 = .ok (.iload 4, 2) := by decide +kernel
theorem dX8_readsPicture_151 : decode cX8_readsPicture 151 = .ok (.iastore, 1) := by decide +kernel
theorem dX8_readsPicture_152 : decode cX8_readsPicture 152 = .ok (.aload_n 0, 1) := by decide +kernel
theorem dX8_readsPicture_153 : decode cX8_readsPicture 153 = .ok (.getfield 28, 3) := by decide +kernel
theorem dX8_readsPicture_156 : decode cX8_readsPicture 156 = .ok (.iload_n 2, 1) := by decide +kernel
theorem dX8_readsPicture_157 : decode cX8_readsPicture 157 = .ok (.iconst 3, 1) := by decide +kernel
theorem dX8_readsPicture_158 : decode cX8_readsPicture 158 = .ok (.iadd, 1) := by decide +kernel
theorem dX8_readsPicture_159 : decode cX8_readsPicture 159 = .ok (.iload 5, 2) := by decide +kernel
theorem dX8_readsPicture_161 : decode cX8_readsPicture 161 = .ok (.iastore, 1) := by decide +kernel
theorem dX8_readsPicture_162 : decode cX8_readsPicture 162 = .ok (.aload_n 0, 1) := by decide +kernel
theorem dX8_readsPicture_163 : decode cX8_readsPicture 163 = .ok (.getfield 28, 3) := by decide +kernel
theorem dX8_readsPicture_166 : decode cX8_readsPicture 166 = .ok (.bipush 12, 2) := by decide +kernel
theorem dX8_readsPicture_168 : decode cX8_readsPicture 168 = .ok (.dup2, 1) := by decide +kernel
theorem dX8_readsPicture_169 : decode cX8_readsPicture 169 = .ok (.iaload, 1) := by decide +kernel
theorem dX8_readsPicture_170 : decode cX8_readsPicture 170 = .ok (.iconst 1, 1) := by decide +kernel
theorem dX8_readsPicture_171 : decode cX8_readsPicture 171 = .ok (.iadd, 1) := by decide +kernel
theorem dX8_readsPicture_172 : decode cX8_readsPicture 172 = .ok (.iastore, 1) := by decide +kernel
theorem dX8_readsPicture_173 : decode cX8_readsPicture 173 = .ok (.return_, 1) := by decide +kernel
theorem dX8_house_0 : decode cX8_house 0 = .ok (.iconst 0, 1) := by decide +kernel
theorem dX8_house_1 : decode cX8_house 1 = .ok (.istore_n 1, 1) := by decide +kernel
theorem dX8_house_2 : decode cX8_house 2 = .ok (.iload_n 1, 1) := by decide +kernel
theorem dX8_house_3 : decode cX8_house 3 = .ok (.bipush 33, 2) := by decide +kernel
theorem dX8_house_5 : decode cX8_house 5 = .ok (.if_icmp .ge 16, 3) := by decide +kernel
theorem dX8_house_8 : decode cX8_house 8 = .ok (.aload_n 0, 1) := by decide +kernel
theorem dX8_house_9 : decode cX8_house 9 = .ok (.getfield 28, 3) := by decide +kernel
theorem dX8_house_12 : decode cX8_house 12 = .ok (.iload_n 1, 1) := by decide +kernel
theorem dX8_house_13 : decode cX8_house 13 = .ok (.iconst 0, 1) := by decide +kernel
theorem dX8_house_14 : decode cX8_house 14 = .ok (.iastore, 1) := by decide +kernel
theorem dX8_house_15 : decode cX8_house 15 = .ok (.iinc 1 1, 3) := by decide +kernel
theorem dX8_house_18 : decode cX8_house 18 = .ok (.goto (-16), 3) := by decide +kernel
theorem dX8_house_21 : decode cX8_house 21 = .ok (.aload_n 0, 1) := by decide +kernel
theorem dX8_house_22 : decode cX8_house 22 = .ok (.iconst 0, 1) := by decide +kernel
theorem dX8_house_23 : decode cX8_house 23 = .ok (.putfield 89, 3) := by decide +kernel
theorem dX8_house_26 : decode cX8_house 26 = .ok (.aload_n 0, 1) := by decide +kernel
theorem dX8_house_27 : decode cX8_house 27 = .ok (.iconst (-1), 1) := by decide +kernel
theorem dX8_house_28 : decode cX8_house 28 = .ok (.putfield 104, 3) := by decide +kernel
theorem dX8_house_31 : decode cX8_house 31 = .ok (.aload_n 0, 1) := by decide +kernel
theorem dX8_house_32 : decode cX8_house 32 = .ok (.invokevirtual 114, 3) := by decide +kernel
theorem dX8_house_35 : decode cX8_house 35 = .ok (.aload_n 0, 1) := by decide +kernel
theorem dX8_house_36 : decode cX8_house 36 = .ok (.aload_n 0, 1) := by decide +kernel
theorem dX8_house_37 : decode cX8_house 37 = .ok (.getfield 101, 3) := by decide +kernel
theorem dX8_house_40 : decode cX8_house 40 = .ok (.iconst 1, 1) := by decide +kernel
theorem dX8_house_41 : decode cX8_house 41 = .ok (.if_icmp .ne 16, 3) := by decide +kernel
theorem dX8_house_44 : decode cX8_house 44 = .ok (.aload_n 0, 1) := by decide +kernel
theorem dX8_house_45 : decode cX8_house 45 = .ok (.getfield 98, 3) := by decide +kernel
theorem dX8_house_48 : decode cX8_house 48 = .ok (.bipush 103, 2) := by decide +kernel
theorem dX8_house_50 : decode cX8_house 50 = .ok (.if_icmp .ne 7, 3) := by decide +kernel
theorem dX8_house_53 : decode cX8_house 53 = .ok (.iconst 1, 1) := by decide +kernel
theorem dX8_house_54 : decode cX8_house 54 = .ok (.goto 4, 3) := by decide +kernel
theorem dX8_house_57 : decode cX8_house 57 = .ok (.iconst 0, 1) := by decide +kernel
theorem dX8_house_58 : decode cX8_house 58 = .ok (.iconst 1, 1) := by decide +kernel
theorem dX8_house_59 : decode cX8_house 59 = .ok (.invokevirtual 117, 3) := by decide +kernel
theorem dX8_house_62 : decode cX8_house 62 = .ok (.pop, 1) := by decide +kernel
theorem dX8_house_63 : decode cX8_house 63 = .ok (.aload_n 0, 1) := by decide +kernel
theorem dX8_house_64 : decode cX8_house 64 = .ok (.getfield 28, 3) := by decide +kernel
theorem dX8_house_67 : decode cX8_house 67 = .ok (.iconst 0, 1) := by decide +kernel
theorem dX8_house_68 : decode cX8_house 68 = .ok (.aload_n 0, 1) := by decide +kernel
theorem dX8_house_69 : decode cX8_house 69 = .ok (.iconst 1, 1) := by decide +kernel
theorem dX8_house_70 : decode cX8_house 70 = .ok (.iconst 5, 1) := by decide +kernel
theorem dX8_house_71 : decode cX8_house 71 = .ok (.invokevirtual 121, 3) := by decide +kernel
theorem dX8_house_74 : decode cX8_house 74 = .ok (.iastore, 1) := by decide +kernel
theorem dX8_house_75 : decode cX8_house 75 = .ok (.aload_n 0, 1) := by decide +kernel
theorem dX8_house_76 : decode cX8_house 76 = .ok (.getfield 28, 3) := by decide +kernel
theorem dX8_house_79 : decode cX8_house 79 = .ok (.iconst 1, 1) := by decide +kernel
theorem dX8_house_80 : decode cX8_house 80 = .ok (.aload_n 0, 1) := by decide +kernel
theorem dX8_house_81 : decode cX8_house 81 = .ok (.iconst 0, 1) := by decide +kernel
theorem dX8_house_82 : decode cX8_house 82 = .ok (.bipush 99, 2) := by decide +kernel
theorem dX8_house_84 : decode cX8_house 84 = .ok (.invokevirtual 124, 3) := by decide +kernel
theorem dX8_house_87 : decode cX8_house 87 = .ok (.iastore, 1) := by decide +kernel
theorem dX8_house_88 : decode cX8_house 88 = .ok (.aload_n 0, 1) := by decide +kernel
theorem dX8_house_89 : decode cX8_house 89 = .ok (.aload_n 0, 1) := by decide +kernel
theorem dX8_house_90 : decode cX8_house 90 = .ok (.getfield 101, 3) := by decide +kernel
theorem dX8_house_93 : decode cX8_house 93 = .ok (.iconst 4, 1) := by decide +kernel
theorem dX8_house_94 : decode cX8_house 94 = .ok (.if_icmp .ne 7, 3) := by decide +kernel
theorem dX8_house_97 : decode cX8_house 97 = .ok (.iconst 1, 1) := by decide +kernel
theorem dX8_house_98 : decode cX8_house 98 = .ok (.goto 4, 3) := by decide +kernel
theorem dX8_house_101 : decode cX8_house 101 = .ok (.iconst 0, 1) := by decide +kernel
theorem dX8_house_102 : decode cX8_house 102 = .ok (.iconst 1, 1) := by decide +kernel
theorem dX8_house_103 : decode cX8_house 103 = .ok (.invokevirtual 117, 3) := by decide +kernel
theorem dX8_house_106 : decode cX8_house 106 = .ok (.pop, 1) := by decide +kernel
theorem dX8_house_107 : decode cX8_house 107 = .ok (.aload_n 0, 1) := by decide +kernel
theorem dX8_house_108 : decode cX8_house 108 = .ok (.invokevirtual 107, 3) := by decide +kernel
theorem dX8_house_111 : decode cX8_house 111 = .ok (.ifCond .eq 27, 3) := by decide +kernel
theorem dX8_house_114 : decode cX8_house 114 = .ok (.aload_n 0, 1) := by decide +kernel
theorem dX8_house_115 : decode cX8_house 115 = .ok (.getfield 101, 3) := by decide +kernel
theorem dX8_house_118 : decode cX8_house 118 = .ok (.iconst 1, 1) := by decide +kernel
theorem dX8_house_119 : decode cX8_house 119 = .ok (.if_icmp .ne 12, 3) := by decide +kernel
theorem dX8_house_122 : decode cX8_house 122 = .ok (.aload_n 0, 1) := by decide +kernel
theorem dX8_house_123 : decode cX8_house 123 = .ok (.getfield 98, 3) := by decide +kernel
theorem dX8_house_126 : decode cX8_house 126 = .ok (.bipush 119, 2) := by decide +kernel
theorem dX8_house_128 : decode cX8_house 128 = .ok (.if_icmp .eq 10, 3) := by decide +kernel
theorem dX8_house_131 : decode cX8_house 131 = .ok (.aload_n 0, 1) := by decide +kernel
theorem dX8_house_132 : decode cX8_house 132 = .ok (.iconst 0, 1) := by decide +kernel
theorem dX8_house_133 : decode cX8_house 133 = .ok (.iconst 1, 1) := by decide +kernel
theorem dX8_house_134 : decode cX8_house 134 = .ok (.invokevirtual 117, 3) := by decide +kernel
theorem dX8_house_137 : decode cX8_house 137 = .ok (.pop, 1) := by decide +kernel
theorem dX8_house_138 : decode cX8_house 138 = .ok (.aload_n 0, 1) := by decide +kernel
theorem dX8_house_139 : decode cX8_house 139 = .ok (.invokevirtual 107, 3) := by decide +kernel
theorem dX8_house_142 : decode cX8_house 142 = .ok (.ifCond .eq 27, 3) := by decide +kernel
theorem dX8_house_145 : decode cX8_house 145 = .ok (.aload_n 0, 1) := by decide +kernel
theorem dX8_house_146 : decode cX8_house 146 = .ok (.getfield 101, 3) := by decide +kernel
theorem dX8_house_149 : decode cX8_house 149 = .ok (.iconst 1, 1) := by decide +kernel
theorem dX8_house_150 : decode cX8_house 150 = .ok (.if_icmp .ne 19, 3) := by decide +kernel
theorem dX8_house_153 : decode cX8_house 153 = .ok (.aload_n 0, 1) := by decide +kernel
theorem dX8_house_154 : decode cX8_house 154 = .ok (.getfield 98, 3) := by decide +kernel
theorem dX8_house_157 : decode cX8_house 157 = .ok (.bipush 119, 2) := by decide +kernel
theorem dX8_house_159 : decode cX8_house 159 = .ok (.if_icmp .ne 10, 3) := by decide +kernel
theorem dX8_house_162 : decode cX8_house 162 = .ok (.aload_n 0, 1) := by decide +kernel
theorem dX8_house_163 : decode cX8_house 163 = .ok (.invokevirtual 141, 3) := by decide +kernel
theorem dX8_house_166 : decode cX8_house 166 = .ok (.goto (-28), 3) := by decide +kernel
theorem dX8_house_169 : decode cX8_house 169 = .ok (.aload_n 0, 1) := by decide +kernel
theorem dX8_house_170 : decode cX8_house 170 = .ok (.invokevirtual 107, 3) := by decide +kernel
theorem dX8_house_173 : decode cX8_house 173 = .ok (.ifCond .eq 28, 3) := by decide +kernel
theorem dX8_house_176 : decode cX8_house 176 = .ok (.aload_n 0, 1) := by decide +kernel
theorem dX8_house_177 : decode cX8_house 177 = .ok (.getfield 101, 3) := by decide +kernel
theorem dX8_house_180 : decode cX8_house 180 = .ok (.iconst 1, 1) := by decide +kernel
theorem dX8_house_181 : decode cX8_house 181 = .ok (.if_icmp .ne 20, 3) := by decide +kernel
theorem dX8_house_184 : decode cX8_house 184 = .ok (.aload_n 0, 1) := by decide +kernel
theorem dX8_house_185 : decode cX8_house 185 = .ok (.getfield 98, 3) := by decide +kernel
theorem dX8_house_188 : decode cX8_house 188 = .ok (.invokestatic 134, 3) := by decide +kernel
theorem dX8_house_191 : decode cX8_house 191 = .ok (.ifCond .le 10, 3) := by decide +kernel
theorem dX8_house_194 : decode cX8_house 194 = .ok (.aload_n 0, 1) := by decide +kernel
theorem dX8_house_195 : decode cX8_house 195 = .ok (.invokevirtual 144, 3) := by decide +kernel
theorem dX8_house_198 : decode cX8_house 198 = .ok (.goto (-29), 3) := by decide +kernel
theorem dX8_house_201 : decode cX8_house 201 = .ok (.aload_n 0, 1) := by decide +kernel
theorem dX8_house_202 : decode cX8_house 202 = .ok (.invokevirtual 107, 3) := by decide +kernel
theorem dX8_house_205 : decode cX8_house 205 = .ok (.ifCond .eq 17, 3) := by decide +kernel
theorem dX8_house_208 : decode cX8_house 208 = .ok (.aload_n 0, 1) := by decide +kernel
theorem dX8_house_209 : decode cX8_house 209 = .ok (.getfield 101, 3) := by decide +kernel
theorem dX8_house_212 : decode cX8_house 212 = .ok (.ifCond .eq 10, 3) := by decide +kernel
theorem dX8_house_215 : decode cX8_house 215 = .ok (.aload_n 0, 1) := by decide +kernel
theorem dX8_house_216 : decode cX8_house 216 = .ok (.iconst 0, 1) := by decide +kernel
theorem dX8_house_217 : decode cX8_house 217 = .ok (.iconst 1, 1) := by decide +kernel
theorem dX8_house_218 : decode cX8_house 218 = .ok (.invokevirtual 117, 3) := by decide +kernel
theorem dX8_house_221 : decode cX8_house 221 = .ok (.pop, 1) := by decide +kernel
theorem dX8_house_222 : decode cX8_house 222 = .ok (.aload_n 0, 1) := by decide +kernel
theorem dX8_house_223 : decode cX8_house 223 = .ok (.iconst 0, 1) := by decide +kernel
theorem dX8_house_224 : decode cX8_house 224 = .ok (.putfield 85, 3) := by decide +kernel
theorem dX8_house_227 : decode cX8_house 227 = .ok (.aload_n 0, 1) := by decide +kernel
theorem dX8_house_228 : decode cX8_house 228 = .ok (.invokevirtual 107, 3) := by decide +kernel
theorem dX8_house_231 : decode cX8_house 231 = .ok (.ifCond .ne 11, 3) := by decide +kernel
theorem dX8_house_234 : decode cX8_house 234 = .ok (.ldc 147, 2) := by decide +kernel
theorem dX8_house_236 : decode cX8_house 236 = .ok (.aload_n 0, 1) := by decide +kernel
theorem dX8_house_237 : decode cX8_house 237 = .ok (.getfield 104, 3) := by decide +kernel
theorem dX8_house_240 : decode cX8_house 240 = .ok (.isub, 1) := by decide +kernel
theorem dX8_house_241 : decode cX8_house 241 = .ok (.ireturn, 1) := by decide +kernel
theorem dX8_house_242 : decode cX8_house 242 = .ok (.aload_n 0, 1) := by decide +kernel
theorem dX8_house_243 : decode cX8_house 243 = .ok (.getfield 28, 3) := by decide +kernel
theorem dX8_house_246 : decode cX8_house 246 = .ok (.iconst 0, 1) := by decide +kernel
theorem dX8_house_247 : decode cX8_house 247 = .ok (.aload_n 0, 1) := by decide +kernel
theorem dX8_house_248 : decode cX8_house 248 = .ok (.getfield 25, 3) := by decide +kernel
theorem dX8_house_251 : decode cX8_house 251 = .ok (.iconst 0, 1) := by decide +kernel
theorem dX8_house_252 : decode cX8_house 252 = .ok (.invokestatic 148, 3) := by decide +kernel
theorem dX8_house_255 : decode cX8_house 255 = .ok (.aload_n 0, 1) := by decide +kernel
theorem dX8_house_256 : decode cX8_house 256 = .ok (.iconst 0, 1) := by decide +kernel
theorem dX8_house_257 : decode cX8_house 257 = .ok (.putfield 152, 3) := by decide +kernel
theorem dX8_house_260 : decode cX8_house 260 = .ok (.aload_n 0, 1) := by decide +kernel
theorem dX8_house_261 : decode cX8_house 261 = .ok (.getfield 25, 3) := by decide +kernel
theorem dX8_house_264 : decode cX8_house 264 = .ok (.bipush 12, 2) := by decide +kernel
theorem dX8_house_266 : decode cX8_house 266 = .ok (.iaload, 1) := by decide +kernel
theorem dX8_house_267 : decode cX8_house 267 = .ok (.ireturn, 1) := by decide +kernel
theorem dX8_fault_0 : decode cX8_fault 0 = .ok (.aload_n 0, 1) := by decide +kernel
theorem dX8_fault_1 : decode cX8_fault 1 = .ok (.getfield 111, 3) := by decide +kernel
theorem dX8_fault_4 : decode cX8_fault 4 = .ok (.ireturn, 1) := by decide +kernel
theorem dX8_isHouse_0 : decode cX8_isHouse 0 = .ok (.aload_n 0, 1) := by decide +kernel
theorem dX8_isHouse_1 : decode cX8_isHouse 1 = .ok (.getfield 25, 3) := by decide +kernel
theorem dX8_isHouse_4 : decode cX8_isHouse 4 = .ok (.iconst 0, 1) := by decide +kernel
theorem dX8_isHouse_5 : decode cX8_isHouse 5 = .ok (.iaload, 1) := by decide +kernel
theorem dX8_isHouse_6 : decode cX8_isHouse 6 = .ok (.ifCond .le 7, 3) := by decide +kernel
theorem dX8_isHouse_9 : decode cX8_isHouse 9 = .ok (.iconst 1, 1) := by decide +kernel
theorem dX8_isHouse_10 : decode cX8_isHouse 10 = .ok (.goto 4, 3) := by decide +kernel
theorem dX8_isHouse_13 : decode cX8_isHouse 13 = .ok (.iconst 0, 1) := by decide +kernel
theorem dX8_isHouse_14 : decode cX8_isHouse 14 = .ok (.ireturn, 1) := by decide +kernel
theorem dX8_isPicture_0 : decode cX8_isPicture 0 = .ok (.iload_n 1, 1) := by decide +kernel
theorem dX8_isPicture_1 : decode cX8_isPicture 1 = .ok (.iconst 0, 1) := by decide +kernel
theorem dX8_isPicture_2 : decode cX8_isPicture 2 = .ok (.aload_n 0, 1) := by decide +kernel
theorem dX8_isPicture_3 : decode cX8_isPicture 3 = .ok (.getfield 25, 3) := by decide +kernel
theorem dX8_isPicture_6 : decode cX8_isPicture 6 = .ok (.bipush 12, 2) := by decide +kernel
theorem dX8_isPicture_8 : decode cX8_isPicture 8 = .ok (.iaload, 1) := by decide +kernel
theorem dX8_isPicture_9 : decode cX8_isPicture 9 = .ok (.iconst 1, 1) := by decide +kernel
theorem dX8_isPicture_10 : decode cX8_isPicture 10 = .ok (.isub, 1) := by decide +kernel
theorem dX8_isPicture_11 : decode cX8_isPicture 11 = .ok (.invokestatic 59, 3) := by decide +kernel
theorem dX8_isPicture_14 : decode cX8_isPicture 14 = .ok (.ireturn, 1) := by decide +kernel
theorem dX8_isWall_0 : decode cX8_isWall 0 = .ok (.iload_n 1, 1) := by decide +kernel
theorem dX8_isWall_1 : decode cX8_isWall 1 = .ok (.iconst 0, 1) := by decide +kernel
theorem dX8_isWall_2 : decode cX8_isWall 2 = .ok (.aload_n 0, 1) := by decide +kernel
theorem dX8_isWall_3 : decode cX8_isWall 3 = .ok (.getfield 25, 3) := by decide +kernel
theorem dX8_isWall_6 : decode cX8_isWall 6 = .ok (.iconst 3, 1) := by decide +kernel
theorem dX8_isWall_7 : decode cX8_isWall 7 = .ok (.iaload, 1) := by decide +kernel
theorem dX8_isWall_8 : decode cX8_isWall 8 = .ok (.iconst 1, 1) := by decide +kernel
theorem dX8_isWall_9 : decode cX8_isWall 9 = .ok (.isub, 1) := by decide +kernel
theorem dX8_isWall_10 : decode cX8_isWall 10 = .ok (.invokestatic 59, 3) := by decide +kernel
theorem dX8_isWall_13 : decode cX8_isWall 13 = .ok (.ireturn, 1) := by decide +kernel
theorem dX8_isFar_0 : decode cX8_isFar 0 = .ok (.iload_n 0, 1) := by decide +kernel
theorem dX8_isFar_1 : decode cX8_isFar 1 = .ok (.iconst 0, 1) := by decide +kernel
theorem dX8_isFar_2 : decode cX8_isFar 2 = .ok (.bipush 60, 2) := by decide +kernel
theorem dX8_isFar_4 : decode cX8_isFar 4 = .ok (.invokestatic 59, 3) := by decide +kernel
theorem dX8_isFar_7 : decode cX8_isFar 7 = .ok (.ireturn, 1) := by decide +kernel
theorem dX8_fades_0 : decode cX8_fades 0 = .ok (.bipush 13, 2) := by decide +kernel
theorem dX8_fades_2 : decode cX8_fades 2 = .ok (.iconst 4, 1) := by decide +kernel
theorem dX8_fades_3 : decode cX8_fades 3 = .ok (.iload_n 1, 1) := by decide +kernel
theorem dX8_fades_4 : decode cX8_fades 4 = .ok (.imul, 1) := by decide +kernel
theorem dX8_fades_5 : decode cX8_fades 5 = .ok (.iadd, 1) := by decide +kernel
theorem dX8_fades_6 : decode cX8_fades 6 = .ok (.istore_n 2, 1) := by decide +kernel
theorem dX8_fades_7 : decode cX8_fades 7 = .ok (.aload_n 0, 1) := by decide +kernel
theorem dX8_fades_8 : decode cX8_fades 8 = .ok (.iconst 4, 1) := by decide +kernel
theorem dX8_fades_9 : decode cX8_fades 9 = .ok (.iconst 2, 1) := by decide +kernel
theorem dX8_fades_10 : decode cX8_fades 10 = .ok (.aload_n 0, 1) := by decide +kernel
theorem dX8_fades_11 : decode cX8_fades 11 = .ok (.iload_n 2, 1) := by decide +kernel
theorem dX8_fades_12 : decode cX8_fades 12 = .ok (.iconst 3, 1) := by decide +kernel
theorem dX8_fades_13 : decode cX8_fades 13 = .ok (.iadd, 1) := by decide +kernel
theorem dX8_fades_14 : decode cX8_fades 14 = .ok (.iaload, 1) := by decide +kernel
theorem dX8_fades_15 : decode cX8_fades 15 = .ok (.imul, 1) := by decide +kernel
theorem dX8_fades_16 : decode cX8_fades 16 = .ok (.iadd, 1) := by decide +kernel
theorem dX8_fades_17 : decode cX8_fades 17 = .ok (.iaload, 1) := by decide +kernel
theorem dX8_fades_18 : decode cX8_fades 18 = .ok (.istore_n 3, 1) := by decide +kernel
theorem dX8_fades_19 : decode cX8_fades 19 = .ok (.aload_n 0, 1) := by decide +kernel
theorem dX8_fades_20 : decode cX8_fades 20 = .ok (.iconst 4, 1) := by decide +kernel
theorem dX8_fades_21 : decode cX8_fades 21 = .ok (.iconst 2, 1) := by decide +kernel
theorem dX8_fades_22 : decode cX8_fades 22 = .ok (.aload_n 0, 1) := by decide +kernel
theorem dX8_fades_23 : decode cX8_fades 23 = .ok (.iload_n 2, 1) := by decide +kernel
theorem dX8_fades_24 : decode cX8_fades 24 = .ok (.iconst 3, 1) := by decide +kernel
theorem dX8_fades_25 : decode cX8_fades 25 = .ok (.iadd, 1) := by decide +kernel
theorem dX8_fades_26 : decode cX8_fades 26 = .ok (.iaload, 1) := by decide +kernel
theorem dX8_fades_27 : decode cX8_fades 27 = .ok (.imul, 1) := by decide +kernel
theorem dX8_fades_28 : decode cX8_fades 28 = .ok (.iadd, 1) := by decide +kernel
theorem dX8_fades_29 : decode cX8_fades 29 = .ok (.iconst 1, 1) := by decide +kernel
theorem dX8_fades_30 : decode cX8_fades 30 = .ok (.iadd, 1) := by decide +kernel
theorem dX8_fades_31 : decode cX8_fades 31 = .ok (.iaload, 1) := by decide +kernel
theorem dX8_fades_32 : decode cX8_fades 32 = .ok (.istore 4, 2) := by decide +kernel
theorem dX8_fades_34 : decode cX8_fades 34 = .ok (.iconst 1, 1) := by decide +kernel
theorem dX8_fades_35 : decode cX8_fades 35 = .ok (.iload_n 3, 1) := by decide +kernel
theorem dX8_fades_36 : decode cX8_fades 36 = .ok (.aload_n 0, 1) := by decide +kernel
theorem dX8_fades_37 : decode cX8_fades 37 = .ok (.iload_n 2, 1) := by decide +kernel
theorem dX8_fades_38 : decode cX8_fades 38 = .ok (.iconst 1, 1) := by decide +kernel
theorem dX8_fades_39 : decode cX8_fades 39 = .ok (.iadd, 1) := by decide +kernel
theorem dX8_fades_40 : decode cX8_fades 40 = .ok (.iaload, 1) := by decide +kernel
theorem dX8_fades_41 : decode cX8_fades 41 = .ok (.idiv, 1) := by decide +kernel
theorem dX8_fades_42 : decode cX8_fades 42 = .ok (.iadd, 1) := by decide +kernel
theorem dX8_fades_43 : decode cX8_fades 43 = .ok (.istore 5, 2) := by decide +kernel
theorem dX8_fades_45 : decode cX8_fades 45 = .ok (.aload_n 0, 1) := by decide +kernel
theorem dX8_fades_46 : decode cX8_fades 46 = .ok (.iload_n 2, 1) := by decide +kernel
theorem dX8_fades_47 : decode cX8_fades 47 = .ok (.iaload, 1) := by decide +kernel
theorem dX8_fades_48 : decode cX8_fades 48 = .ok (.tableswitch 64 1 4 #[32, 35, 40, 59], 32) := by decide +kernel
theorem dX8_fades_80 : decode cX8_fades 80 = .ok (.iload 5, 2) := by decide +kernel
theorem dX8_fades_82 : decode cX8_fades 82 = .ok (.ireturn, 1) := by decide +kernel
theorem dX8_fades_83 : decode cX8_fades 83 = .ok (.iconst 2, 1) := by decide +kernel
theorem dX8_fades_84 : decode cX8_fades 84 = .ok (.iload 5, 2) := by decide +kernel
theorem dX8_fades_86 : decode cX8_fades 86 = .ok (.imul, 1) := by decide +kernel
theorem dX8_fades_87 : decode cX8_fades 87 = .ok (.ireturn, 1) := by decide +kernel
theorem dX8_fades_88 : decode cX8_fades 88 = .ok (.aload_n 0, 1) := by decide +kernel
theorem dX8_fades_89 : decode cX8_fades 89 = .ok (.iconst 2, 1) := by decide +kernel
theorem dX8_fades_90 : decode cX8_fades 90 = .ok (.iaload, 1) := by decide +kernel
theorem dX8_fades_91 : decode cX8_fades 91 = .ok (.aload_n 0, 1) := by decide +kernel
theorem dX8_fades_92 : decode cX8_fades 92 = .ok (.iload_n 2, 1) := by decide +kernel
theorem dX8_fades_93 : decode cX8_fades 93 = .ok (.iconst 1, 1) := by decide +kernel
theorem dX8_fades_94 : decode cX8_fades 94 = .ok (.iadd, 1) := by decide +kernel
theorem dX8_fades_95 : decode cX8_fades 95 = .ok (.iaload, 1) := by decide +kernel
theorem dX8_fades_96 : decode cX8_fades 96 = .ok (.irem, 1) := by decide +kernel
theorem dX8_fades_97 : decode cX8_fades 97 = .ok (.ifCond .ne 8, 3) := by decide +kernel
theorem dX8_fades_100 : decode cX8_fades 100 = .ok (.iload 5, 2) := by decide +kernel
theorem dX8_fades_102 : decode cX8_fades 102 = .ok (.goto 4, 3) := by decide +kernel
theorem dX8_fades_105 : decode cX8_fades 105 = .ok (.iconst 0, 1) := by decide +kernel
theorem dX8_fades_106 : decode cX8_fades 106 = .ok (.ireturn, 1) := by decide +kernel
theorem dX8_fades_107 : decode cX8_fades 107 = .ok (.iload 4, 2) := by decide +kernel
theorem dX8_fades_109 : decode cX8_fades 109 = .ok (.iconst 2, 1) := by decide +kernel
theorem dX8_fades_110 : decode cX8_fades 110 = .ok (.idiv, 1) := by decide +kernel
theorem dX8_fades_111 : decode cX8_fades 111 = .ok (.ireturn, 1) := by decide +kernel
theorem dX8_fades_112 : decode cX8_fades 112 = .ok (.iconst 0, 1) := by decide +kernel
theorem dX8_fades_113 : decode cX8_fades 113 = .ok (.ireturn, 1) := by decide +kernel
theorem dX8_takesOff_0 : decode cX8_takesOff 0 = .ok (.aload_n 0, 1) := by decide +kernel
theorem dX8_takesOff_1 : decode cX8_takesOff 1 = .ok (.bipush 13, 2) := by decide +kernel
theorem dX8_takesOff_3 : decode cX8_takesOff 3 = .ok (.iconst 4, 1) := by decide +kernel
theorem dX8_takesOff_4 : decode cX8_takesOff 4 = .ok (.iload_n 1, 1) := by decide +kernel
theorem dX8_takesOff_5 : decode cX8_takesOff 5 = .ok (.imul, 1) := by decide +kernel
theorem dX8_takesOff_6 : decode cX8_takesOff 6 = .ok (.iadd, 1) := by decide +kernel
theorem dX8_takesOff_7 : decode cX8_takesOff 7 = .ok (.iconst 2, 1) := by decide +kernel
theorem dX8_takesOff_8 : decode cX8_takesOff 8 = .ok (.iadd, 1) := by decide +kernel
theorem dX8_takesOff_9 : decode cX8_takesOff 9 = .ok (.iaload, 1) := by decide +kernel
theorem dX8_takesOff_10 : decode cX8_takesOff 10 = .ok (.iload_n 2, 1) := by decide +kernel
theorem dX8_takesOff_11 : decode cX8_takesOff 11 = .ok (.isub, 1) := by decide +kernel
theorem dX8_takesOff_12 : decode cX8_takesOff 12 = .ok (.istore_n 3, 1) := by decide +kernel
theorem dX8_takesOff_13 : decode cX8_takesOff 13 = .ok (.aload_n 0, 1) := by decide +kernel
theorem dX8_takesOff_14 : decode cX8_takesOff 14 = .ok (.bipush 13, 2) := by decide +kernel
theorem dX8_takesOff_16 : decode cX8_takesOff 16 = .ok (.iconst 4, 1) := by decide +kernel
theorem dX8_takesOff_17 : decode cX8_takesOff 17 = .ok (.iload_n 1, 1) := by decide +kernel
theorem dX8_takesOff_18 : decode cX8_takesOff 18 = .ok (.imul, 1) := by decide +kernel
theorem dX8_takesOff_19 : decode cX8_takesOff 19 = .ok (.iadd, 1) := by decide +kernel
theorem dX8_takesOff_20 : decode cX8_takesOff 20 = .ok (.iconst 2, 1) := by decide +kernel
theorem dX8_takesOff_21 : decode cX8_takesOff 21 = .ok (.iadd, 1) := by decide +kernel
theorem dX8_takesOff_22 : decode cX8_takesOff 22 = .ok (.iload_n 3, 1) := by decide +kernel
theorem dX8_takesOff_23 : decode cX8_takesOff 23 = .ok (.ifCond .ge 7, 3) := by decide +kernel
theorem dX8_takesOff_26 : decode cX8_takesOff 26 = .ok (.iconst 0, 1) := by decide +kernel
theorem dX8_takesOff_27 : decode cX8_takesOff 27 = .ok (.goto 4, 3) := by decide +kernel
theorem dX8_takesOff_30 : decode cX8_takesOff 30 = .ok (.iload_n 3, 1) := by decide +kernel
theorem dX8_takesOff_31 : decode cX8_takesOff 31 = .ok (.iastore, 1) := by decide +kernel
theorem dX8_takesOff_32 : decode cX8_takesOff 32 = .ok (.return_, 1) := by decide +kernel
theorem dX8_passes_0 : decode cX8_passes 0 = .ok (.iconst 0, 1) := by decide +kernel
theorem dX8_passes_1 : decode cX8_passes 1 = .ok (.istore_n 1, 1) := by decide +kernel
theorem dX8_passes_2 : decode cX8_passes 2 = .ok (.iload_n 1, 1) := by decide +kernel
theorem dX8_passes_3 : decode cX8_passes 3 = .ok (.aload_n 0, 1) := by decide +kernel
theorem dX8_passes_4 : decode cX8_passes 4 = .ok (.bipush 12, 2) := by decide +kernel
theorem dX8_passes_6 : decode cX8_passes 6 = .ok (.iaload, 1) := by decide +kernel
theorem dX8_passes_7 : decode cX8_passes 7 = .ok (.if_icmp .ge 19, 3) := by decide +kernel
theorem dX8_passes_10 : decode cX8_passes 10 = .ok (.aload_n 0, 1) := by decide +kernel
theorem dX8_passes_11 : decode cX8_passes 11 = .ok (.iload_n 1, 1) := by decide +kernel
theorem dX8_passes_12 : decode cX8_passes 12 = .ok (.aload_n 0, 1) := by decide +kernel
theorem dX8_passes_13 : decode cX8_passes 13 = .ok (.iload_n 1, 1) := by decide +kernel
theorem dX8_passes_14 : decode cX8_passes 14 = .ok (.invokestatic 155, 3) := by decide +kernel
theorem dX8_passes_17 : decode cX8_passes 17 = .ok (.invokestatic 158, 3) := by decide +kernel
theorem dX8_passes_20 : decode cX8_passes 20 = .ok (.iinc 1 1, 3) := by decide +kernel
theorem dX8_passes_23 : decode cX8_passes 23 = .ok (.goto (-21), 3) := by decide +kernel
theorem dX8_passes_26 : decode cX8_passes 26 = .ok (.aload_n 0, 1) := by decide +kernel
theorem dX8_passes_27 : decode cX8_passes 27 = .ok (.iconst 2, 1) := by decide +kernel
theorem dX8_passes_28 : decode cX8_passes 28 = .ok (.dup2, 1) := by decide +kernel
theorem dX8_passes_29 : decode cX8_passes 29 = .ok (.iaload, 1) := by decide +kernel
theorem dX8_passes_30 : decode cX8_passes 30 = .ok (.iconst 1, 1) := by decide +kernel
theorem dX8_passes_31 : decode cX8_passes 31 = .ok (.iadd, 1) := by decide +kernel
theorem dX8_passes_32 : decode cX8_passes 32 = .ok (.iastore, 1) := by decide +kernel
theorem dX8_passes_33 : decode cX8_passes 33 = .ok (.return_, 1) := by decide +kernel
theorem dX8_living_0 : decode cX8_living 0 = .ok (.iconst 0, 1) := by decide +kernel
theorem dX8_living_1 : decode cX8_living 1 = .ok (.istore_n 1, 1) := by decide +kernel
theorem dX8_living_2 : decode cX8_living 2 = .ok (.iconst 0, 1) := by decide +kernel
theorem dX8_living_3 : decode cX8_living 3 = .ok (.istore_n 2, 1) := by decide +kernel
theorem dX8_living_4 : decode cX8_living 4 = .ok (.iload_n 2, 1) := by decide +kernel
theorem dX8_living_5 : decode cX8_living 5 = .ok (.aload_n 0, 1) := by decide +kernel
theorem dX8_living_6 : decode cX8_living 6 = .ok (.bipush 12, 2) := by decide +kernel
theorem dX8_living_8 : decode cX8_living 8 = .ok (.iaload, 1) := by decide +kernel
theorem dX8_living_9 : decode cX8_living 9 = .ok (.if_icmp .ge 32, 3) := by decide +kernel
theorem dX8_living_12 : decode cX8_living 12 = .ok (.iload_n 1, 1) := by decide +kernel
theorem dX8_living_13 : decode cX8_living 13 = .ok (.aload_n 0, 1) := by decide +kernel
theorem dX8_living_14 : decode cX8_living 14 = .ok (.bipush 13, 2) := by decide +kernel
theorem dX8_living_16 : decode cX8_living 16 = .ok (.iconst 4, 1) := by decide +kernel
theorem dX8_living_17 : decode cX8_living 17 = .ok (.iload_n 2, 1) := by decide +kernel
theorem dX8_living_18 : decode cX8_living 18 = .ok (.imul, 1) := by decide +kernel
theorem dX8_living_19 : decode cX8_living 19 = .ok (.iadd, 1) := by decide +kernel
theorem dX8_living_20 : decode cX8_living 20 = .ok (.iconst 2, 1) := by decide +kernel
theorem dX8_living_21 : decode cX8_living 21 = .ok (.iadd, 1) := by decide +kernel
theorem dX8_living_22 : decode cX8_living 22 = .ok (.iaload, 1) := by decide +kernel
theorem dX8_living_23 : decode cX8_living 23 = .ok (.ifCond .le 9, 3) := by decide +kernel
theorem dX8_living_26 : decode cX8_living 26 = .ok (.iconst 1, 1) := by decide +kernel
theorem dX8_living_27 : decode cX8_living 27 = .ok (.iload_n 2, 1) := by decide +kernel
theorem dX8_living_28 : decode cX8_living 28 = .ok (.ishl, 1) := by decide +kernel
theorem dX8_living_29 : decode cX8_living 29 = .ok (.goto 4, 3) := by decide +kernel
theorem dX8_living_32 : decode cX8_living 32 = .ok (.iconst 0, 1) := by decide +kernel
theorem dX8_living_33 : decode cX8_living 33 = .ok (.ior, 1) := by decide +kernel
theorem dX8_living_34 : decode cX8_living 34 = .ok (.istore_n 1, 1) := by decide +kernel
theorem dX8_living_35 : decode cX8_living 35 = .ok (.iinc 2 1, 3) := by decide +kernel
theorem dX8_living_38 : decode cX8_living 38 = .ok (.goto (-34), 3) := by decide +kernel
theorem dX8_living_41 : decode cX8_living 41 = .ok (.iload_n 1, 1) := by decide +kernel
theorem dX8_living_42 : decode cX8_living 42 = .ok (.ireturn, 1) := by decide +kernel
theorem dX8_together_0 : decode cX8_together 0 = .ok (.iconst 0, 1) := by decide +kernel
theorem dX8_together_1 : decode cX8_together 1 = .ok (.istore_n 1, 1) := by decide +kernel
theorem dX8_together_2 : decode cX8_together 2 = .ok (.iconst 0, 1) := by decide +kernel
theorem dX8_together_3 : decode cX8_together 3 = .ok (.istore_n 2, 1) := by decide +kernel
theorem dX8_together_4 : decode cX8_together 4 = .ok (.iload_n 2, 1) := by decide +kernel
theorem dX8_together_5 : decode cX8_together 5 = .ok (.aload_n 0, 1) := by decide +kernel
theorem dX8_together_6 : decode cX8_together 6 = .ok (.bipush 12, 2) := by decide +kernel
theorem dX8_together_8 : decode cX8_together 8 = .ok (.iaload, 1) := by decide +kernel
theorem dX8_together_9 : decode cX8_together 9 = .ok (.if_icmp .ge 22, 3) := by decide +kernel
theorem dX8_together_12 : decode cX8_together 12 = .ok (.iload_n 1, 1) := by decide +kernel
theorem dX8_together_13 : decode cX8_together 13 = .ok (.aload_n 0, 1) := by decide +kernel
theorem dX8_together_14 : decode cX8_together 14 = .ok (.bipush 13, 2) := by decide +kernel
theorem dX8_together_16 : decode cX8_together 16 = .ok (.iconst 4, 1) := by decide +kernel
theorem dX8_together_17 : decode cX8_together 17 = .ok (.iload_n 2, 1) := by decide +kernel
theorem dX8_together_18 : decode cX8_together 18 = .ok (.imul, 1) := by decide +kernel
theorem dX8_together_19 : decode cX8_together 19 = .ok (.iadd, 1) := by decide +kernel
theorem dX8_together_20 : decode cX8_together 20 = .ok (.iconst 2, 1) := by decide +kernel
theorem dX8_together_21 : decode cX8_together 21 = .ok (.iadd, 1) := by decide +kernel
theorem dX8_together_22 : decode cX8_together 22 = .ok (.iaload, 1) := by decide +kernel
theorem dX8_together_23 : decode cX8_together 23 = .ok (.iadd, 1) := by decide +kernel
theorem dX8_together_24 : decode cX8_together 24 = .ok (.istore_n 1, 1) := by decide +kernel
theorem dX8_together_25 : decode cX8_together 25 = .ok (.iinc 2 1, 3) := by decide +kernel
theorem dX8_together_28 : decode cX8_together 28 = .ok (.goto (-24), 3) := by decide +kernel
theorem dX8_together_31 : decode cX8_together 31 = .ok (.iload_n 1, 1) := by decide +kernel
theorem dX8_together_32 : decode cX8_together 32 = .ok (.ireturn, 1) := by decide +kernel
theorem dX8_tries_0 : decode cX8_tries 0 = .ok (.aload_n 0, 1) := by decide +kernel
theorem dX8_tries_1 : decode cX8_tries 1 = .ok (.getfield 25, 3) := by decide +kernel
theorem dX8_tries_4 : decode cX8_tries 4 = .ok (.iconst 0, 1) := by decide +kernel
theorem dX8_tries_5 : decode cX8_tries 5 = .ok (.aload_n 0, 1) := by decide +kernel
theorem dX8_tries_6 : decode cX8_tries 6 = .ok (.getfield 31, 3) := by decide +kernel
theorem dX8_tries_9 : decode cX8_tries 9 = .ok (.iconst 0, 1) := by decide +kernel
theorem dX8_tries_10 : decode cX8_tries 10 = .ok (.invokestatic 148, 3) := by decide +kernel
theorem dX8_tries_13 : decode cX8_tries 13 = .ok (.return_, 1) := by decide +kernel
theorem dX8_goes_0 : decode cX8_goes 0 = .ok (.iconst 0, 1) := by decide +kernel
theorem dX8_goes_1 : decode cX8_goes 1 = .ok (.istore_n 2, 1) := by decide +kernel
theorem dX8_goes_2 : decode cX8_goes 2 = .ok (.iload_n 2, 1) := by decide +kernel
theorem dX8_goes_3 : decode cX8_goes 3 = .ok (.iload_n 1, 1) := by decide +kernel
theorem dX8_goes_4 : decode cX8_goes 4 = .ok (.if_icmp .ge 16, 3) := by decide +kernel
theorem dX8_goes_7 : decode cX8_goes 7 = .ok (.aload_n 0, 1) := by decide +kernel
theorem dX8_goes_8 : decode cX8_goes 8 = .ok (.getfield 31, 3) := by decide +kernel
theorem dX8_goes_11 : decode cX8_goes 11 = .ok (.invokestatic 162, 3) := by decide +kernel
theorem dX8_goes_14 : decode cX8_goes 14 = .ok (.iinc 2 1, 3) := by decide +kernel
theorem dX8_goes_17 : decode cX8_goes 17 = .ok (.goto (-15), 3) := by decide +kernel
theorem dX8_goes_20 : decode cX8_goes 20 = .ok (.return_, 1) := by decide +kernel
theorem dX8_notes_0 : decode cX8_notes 0 = .ok (.aload_n 0, 1) := by decide +kernel
theorem dX8_notes_1 : decode cX8_notes 1 = .ok (.getfield 152, 3) := by decide +kernel
theorem dX8_notes_4 : decode cX8_notes 4 = .ok (.bipush 24, 2) := by decide +kernel
theorem dX8_notes_6 : decode cX8_notes 6 = .ok (.if_icmp .ne 43, 3) := by decide +kernel
theorem dX8_notes_9 : decode cX8_notes 9 = .ok (.iconst 0, 1) := by decide +kernel
theorem dX8_notes_10 : decode cX8_notes 10 = .ok (.istore_n 1, 1) := by decide +kernel
theorem dX8_notes_11 : decode cX8_notes 11 = .ok (.iload_n 1, 1) := by decide +kernel
theorem dX8_notes_12 : decode cX8_notes 12 = .ok (.sipush 759, 3) := by decide +kernel
theorem dX8_notes_15 : decode cX8_notes 15 = .ok (.if_icmp .ge 24, 3) := by decide +kernel
theorem dX8_notes_18 : decode cX8_notes 18 = .ok (.aload_n 0, 1) := by decide +kernel
theorem dX8_notes_19 : decode cX8_notes 19 = .ok (.getfield 34, 3) := by decide +kernel
theorem dX8_notes_22 : decode cX8_notes 22 = .ok (.iload_n 1, 1) := by decide +kernel
theorem dX8_notes_23 : decode cX8_notes 23 = .ok (.aload_n 0, 1) := by decide +kernel
theorem dX8_notes_24 : decode cX8_notes 24 = .ok (.getfield 34, 3) := by decide +kernel
theorem dX8_notes_27 : decode cX8_notes 27 = .ok (.iload_n 1, 1) := by decide +kernel
theorem dX8_notes_28 : decode cX8_notes 28 = .ok (.bipush 33, 2) := by decide +kernel
theorem dX8_notes_30 : decode cX8_notes 30 = .ok (.iadd, 1) := by decide +kernel
theorem dX8_notes_31 : decode cX8_notes 31 = .ok (.iaload, 1) := by decide +kernel
theorem dX8_notes_32 : decode cX8_notes 32 = .ok (.iastore, 1) := by decide +kernel
theorem dX8_notes_33 : decode cX8_notes 33 = .ok (.iinc 1 1, 3) := by decide +kernel
theorem dX8_notes_36 : decode cX8_notes 36 = .ok (.goto (-25), 3) := by decide +kernel
theorem dX8_notes_39 : decode cX8_notes 39 = .ok (.aload_n 0, 1) := by decide +kernel
theorem dX8_notes_40 : decode cX8_notes 40 = .ok (.dup, 1) := by decide +kernel
theorem dX8_notes_41 : decode cX8_notes 41 = .ok (.getfield 152, 3) := by decide +kernel
theorem dX8_notes_44 : decode cX8_notes 44 = .ok (.iconst 1, 1) := by decide +kernel
theorem dX8_notes_45 : decode cX8_notes 45 = .ok (.isub, 1) := by decide +kernel
theorem dX8_notes_46 : decode cX8_notes 46 = .ok (.putfield 152, 3) := by decide +kernel
theorem dX8_notes_49 : decode cX8_notes 49 = .ok (.aload_n 0, 1) := by decide +kernel
theorem dX8_notes_50 : decode cX8_notes 50 = .ok (.getfield 25, 3) := by decide +kernel
theorem dX8_notes_53 : decode cX8_notes 53 = .ok (.iconst 0, 1) := by decide +kernel
theorem dX8_notes_54 : decode cX8_notes 54 = .ok (.aload_n 0, 1) := by decide +kernel
theorem dX8_notes_55 : decode cX8_notes 55 = .ok (.getfield 34, 3) := by decide +kernel
theorem dX8_notes_58 : decode cX8_notes 58 = .ok (.bipush 33, 2) := by decide +kernel
theorem dX8_notes_60 : decode cX8_notes 60 = .ok (.aload_n 0, 1) := by decide +kernel
theorem dX8_notes_61 : decode cX8_notes 61 = .ok (.getfield 152, 3) := by decide +kernel
theorem dX8_notes_64 : decode cX8_notes 64 = .ok (.imul, 1) := by decide +kernel
theorem dX8_notes_65 : decode cX8_notes 65 = .ok (.invokestatic 148, 3) := by decide +kernel
theorem dX8_notes_68 : decode cX8_notes 68 = .ok (.aload_n 0, 1) := by decide +kernel
theorem dX8_notes_69 : decode cX8_notes 69 = .ok (.dup, 1) := by decide +kernel
theorem dX8_notes_70 : decode cX8_notes 70 = .ok (.getfield 152, 3) := by decide +kernel
theorem dX8_notes_73 : decode cX8_notes 73 = .ok (.iconst 1, 1) := by decide +kernel
theorem dX8_notes_74 : decode cX8_notes 74 = .ok (.iadd, 1) := by decide +kernel
theorem dX8_notes_75 : decode cX8_notes 75 = .ok (.putfield 152, 3) := by decide +kernel
theorem dX8_notes_78 : decode cX8_notes 78 = .ok (.return_, 1) := by decide +kernel
theorem dX8_years_0 : decode cX8_years 0 = .ok (.aload_n 0, 1) := by decide +kernel
theorem dX8_years_1 : decode cX8_years 1 = .ok (.invokevirtual 166, 3) := by decide +kernel
theorem dX8_years_4 : decode cX8_years 4 = .ok (.ifCond .ne 6, 3) := by decide +kernel
theorem dX8_years_7 : decode cX8_years 7 = .ok (.ldc 169, 2) := by decide +kernel
theorem dX8_years_9 : decode cX8_years 9 = .ok (.ireturn, 1) := by decide +kernel
theorem dX8_years_10 : decode cX8_years 10 = .ok (.iload_n 1, 1) := by decide +kernel
theorem dX8_years_11 : decode cX8_years 11 = .ok (.iconst 1, 1) := by decide +kernel
theorem dX8_years_12 : decode cX8_years 12 = .ok (.bipush 24, 2) := by decide +kernel
theorem dX8_years_14 : decode cX8_years 14 = .ok (.invokestatic 59, 3) := by decide +kernel
theorem dX8_years_17 : decode cX8_years 17 = .ok (.ifCond .ne 6, 3) := by decide +kernel
theorem dX8_years_20 : decode cX8_years 20 = .ok (.ldc 67, 2) := by decide +kernel
theorem dX8_years_22 : decode cX8_years 22 = .ok (.ireturn, 1) := by decide +kernel
theorem dX8_years_23 : decode cX8_years 23 = .ok (.aload_n 0, 1) := by decide +kernel
theorem dX8_years_24 : decode cX8_years 24 = .ok (.getfield 25, 3) := by decide +kernel
theorem dX8_years_27 : decode cX8_years 27 = .ok (.iconst 2, 1) := by decide +kernel
theorem dX8_years_28 : decode cX8_years 28 = .ok (.iaload, 1) := by decide +kernel
theorem dX8_years_29 : decode cX8_years 29 = .ok (.iload_n 1, 1) := by decide +kernel
theorem dX8_years_30 : decode cX8_years 30 = .ok (.iadd, 1) := by decide +kernel
theorem dX8_years_31 : decode cX8_years 31 = .ok (.sipush 999, 3) := by decide +kernel
theorem dX8_years_34 : decode cX8_years 34 = .ok (.if_icmp .le 6, 3) := by decide +kernel
theorem dX8_years_37 : decode cX8_years 37 = .ok (.ldc 88, 2) := by decide +kernel
theorem dX8_years_39 : decode cX8_years 39 = .ok (.ireturn, 1) := by decide +kernel
theorem dX8_years_40 : decode cX8_years 40 = .ok (.iconst 0, 1) := by decide +kernel
theorem dX8_years_41 : decode cX8_years 41 = .ok (.istore_n 2, 1) := by decide +kernel
theorem dX8_years_42 : decode cX8_years 42 = .ok (.iload_n 2, 1) := by decide +kernel
theorem dX8_years_43 : decode cX8_years 43 = .ok (.iload_n 1, 1) := by decide +kernel
theorem dX8_years_44 : decode cX8_years 44 = .ok (.if_icmp .ge 20, 3) := by decide +kernel
theorem dX8_years_47 : decode cX8_years 47 = .ok (.aload_n 0, 1) := by decide +kernel
theorem dX8_years_48 : decode cX8_years 48 = .ok (.invokevirtual 170, 3) := by decide +kernel
theorem dX8_years_51 : decode cX8_years 51 = .ok (.aload_n 0, 1) := by decide +kernel
theorem dX8_years_52 : decode cX8_years 52 = .ok (.getfield 25, 3) := by decide +kernel
theorem dX8_years_55 : decode cX8_years 55 = .ok (.invokestatic 162, 3) := by decide +kernel
theorem dX8_years_58 : decode cX8_years 58 = .ok (.iinc 2 1, 3) := by decide +kernel
theorem dX8_years_61 : decode cX8_years 61 = .ok (.goto (-19), 3) := by decide +kernel
theorem dX8_years_64 : decode cX8_years 64 = .ok (.aload_n 0, 1) := by decide +kernel
theorem dX8_years_65 : decode cX8_years 65 = .ok (.getfield 25, 3) := by decide +kernel
theorem dX8_years_68 : decode cX8_years 68 = .ok (.invokestatic 173, 3) := by decide +kernel
theorem dX8_years_71 : decode cX8_years 71 = .ok (.ireturn, 1) := by decide +kernel
theorem dX8_deed_0 : decode cX8_deed 0 = .ok (.aload_n 0, 1) := by decide +kernel
theorem dX8_deed_1 : decode cX8_deed 1 = .ok (.iload_n 1, 1) := by decide +kernel
theorem dX8_deed_2 : decode cX8_deed 2 = .ok (.invokevirtual 177, 3) := by decide +kernel
theorem dX8_deed_5 : decode cX8_deed 5 = .ok (.ifCond .eq 13, 3) := by decide +kernel
theorem dX8_deed_8 : decode cX8_deed 8 = .ok (.iload_n 2, 1) := by decide +kernel
theorem dX8_deed_9 : decode cX8_deed 9 = .ok (.iconst 1, 1) := by decide +kernel
theorem dX8_deed_10 : decode cX8_deed 10 = .ok (.bipush 60, 2) := by decide +kernel
theorem dX8_deed_12 : decode cX8_deed 12 = .ok (.invokestatic 59, 3) := by decide +kernel
theorem dX8_deed_15 : decode cX8_deed 15 = .ok (.ifCond .ne 6, 3) := by decide +kernel
theorem dX8_deed_18 : decode cX8_deed 18 = .ok (.ldc 67, 2) := by decide +kernel
theorem dX8_deed_20 : decode cX8_deed 20 = .ok (.ireturn, 1) := by decide +kernel
theorem dX8_deed_21 : decode cX8_deed 21 = .ok (.aload_n 0, 1) := by decide +kernel
theorem dX8_deed_22 : decode cX8_deed 22 = .ok (.getfield 25, 3) := by decide +kernel
theorem dX8_deed_25 : decode cX8_deed 25 = .ok (.bipush 13, 2) := by decide +kernel
theorem dX8_deed_27 : decode cX8_deed 27 = .ok (.iconst 4, 1) := by decide +kernel
theorem dX8_deed_28 : decode cX8_deed 28 = .ok (.iload_n 1, 1) := by decide +kernel
theorem dX8_deed_29 : decode cX8_deed 29 = .ok (.imul, 1) := by decide +kernel
theorem dX8_deed_30 : decode cX8_deed 30 = .ok (.iadd, 1) := by decide +kernel
theorem dX8_deed_31 : decode cX8_deed 31 = .ok (.iconst 2, 1) := by decide +kernel
theorem dX8_deed_32 : decode cX8_deed 32 = .ok (.iadd, 1) := by decide +kernel
theorem dX8_deed_33 : decode cX8_deed 33 = .ok (.iaload, 1) := by decide +kernel
theorem dX8_deed_34 : decode cX8_deed 34 = .ok (.ifCond .ne 6, 3) := by decide +kernel
theorem dX8_deed_37 : decode cX8_deed 37 = .ok (.ldc 169, 2) := by decide +kernel
theorem dX8_deed_39 : decode cX8_deed 39 = .ok (.ireturn, 1) := by decide +kernel
theorem dX8_deed_40 : decode cX8_deed 40 = .ok (.aload_n 0, 1) := by decide +kernel
theorem dX8_deed_41 : decode cX8_deed 41 = .ok (.invokevirtual 170, 3) := by decide +kernel
theorem dX8_deed_44 : decode cX8_deed 44 = .ok (.aload_n 0, 1) := by decide +kernel
theorem dX8_deed_45 : decode cX8_deed 45 = .ok (.getfield 25, 3) := by decide +kernel
theorem dX8_deed_48 : decode cX8_deed 48 = .ok (.iload_n 1, 1) := by decide +kernel
theorem dX8_deed_49 : decode cX8_deed 49 = .ok (.iload_n 2, 1) := by decide +kernel
theorem dX8_deed_50 : decode cX8_deed 50 = .ok (.invokestatic 158, 3) := by decide +kernel
theorem dX8_deed_53 : decode cX8_deed 53 = .ok (.aload_n 0, 1) := by decide +kernel
theorem dX8_deed_54 : decode cX8_deed 54 = .ok (.getfield 25, 3) := by decide +kernel
theorem dX8_deed_57 : decode cX8_deed 57 = .ok (.bipush 13, 2) := by decide +kernel
theorem dX8_deed_59 : decode cX8_deed 59 = .ok (.iconst 4, 1) := by decide +kernel
theorem dX8_deed_60 : decode cX8_deed 60 = .ok (.iload_n 1, 1) := by decide +kernel
theorem dX8_deed_61 : decode cX8_deed 61 = .ok (.imul, 1) := by decide +kernel
theorem dX8_deed_62 : decode cX8_deed 62 = .ok (.iadd, 1) := by decide +kernel
theorem dX8_deed_63 : decode cX8_deed 63 = .ok (.iconst 2, 1) := by decide +kernel
theorem dX8_deed_64 : decode cX8_deed 64 = .ok (.iadd, 1) := by decide +kernel
theorem dX8_deed_65 : decode cX8_deed 65 = .ok (.iaload, 1) := by decide +kernel
theorem dX8_deed_66 : decode cX8_deed 66 = .ok (.ireturn, 1) := by decide +kernel
theorem dX8_restore_0 : decode cX8_restore 0 = .ok (.aload_n 0, 1) := by decide +kernel
theorem dX8_restore_1 : decode cX8_restore 1 = .ok (.iload_n 1, 1) := by decide +kernel
theorem dX8_restore_2 : decode cX8_restore 2 = .ok (.invokevirtual 177, 3) := by decide +kernel
theorem dX8_restore_5 : decode cX8_restore 5 = .ok (.ifCond .eq 13, 3) := by decide +kernel
theorem dX8_restore_8 : decode cX8_restore 8 = .ok (.iload_n 2, 1) := by decide +kernel
theorem dX8_restore_9 : decode cX8_restore 9 = .ok (.iconst 1, 1) := by decide +kernel
theorem dX8_restore_10 : decode cX8_restore 10 = .ok (.bipush 60, 2) := by decide +kernel
theorem dX8_restore_12 : decode cX8_restore 12 = .ok (.invokestatic 59, 3) := by decide +kernel
theorem dX8_restore_15 : decode cX8_restore 15 = .ok (.ifCond .ne 6, 3) := by decide +kernel
theorem dX8_restore_18 : decode cX8_restore 18 = .ok (.ldc 67, 2) := by decide +kernel
theorem dX8_restore_20 : decode cX8_restore 20 = .ok (.ireturn, 1) := by decide +kernel
theorem dX8_restore_21 : decode cX8_restore 21 = .ok (.aload_n 0, 1) := by decide +kernel
theorem dX8_restore_22 : decode cX8_restore 22 = .ok (.getfield 25, 3) := by decide +kernel
theorem dX8_restore_25 : decode cX8_restore 25 = .ok (.bipush 13, 2) := by decide +kernel
theorem dX8_restore_27 : decode cX8_restore 27 = .ok (.iconst 4, 1) := by decide +kernel
theorem dX8_restore_28 : decode cX8_restore 28 = .ok (.iload_n 1, 1) := by decide +kernel
theorem dX8_restore_29 : decode cX8_restore 29 = .ok (.imul, 1) := by decide +kernel
theorem dX8_restore_30 : decode cX8_restore 30 = .ok (.iadd, 1) := by decide +kernel
theorem dX8_restore_31 : decode cX8_restore 31 = .ok (.iconst 2, 1) := by decide +kernel
theorem dX8_restore_32 : decode cX8_restore 32 = .ok (.iadd, 1) := by decide +kernel
theorem dX8_restore_33 : decode cX8_restore 33 = .ok (.iaload, 1) := by decide +kernel
theorem dX8_restore_34 : decode cX8_restore 34 = .ok (.istore_n 3, 1) := by decide +kernel
theorem dX8_restore_35 : decode cX8_restore 35 = .ok (.iload_n 2, 1) := by decide +kernel
theorem dX8_restore_36 : decode cX8_restore 36 = .ok (.bipush 60, 2) := by decide +kernel
theorem dX8_restore_38 : decode cX8_restore 38 = .ok (.iload_n 3, 1) := by decide +kernel
theorem dX8_restore_39 : decode cX8_restore 39 = .ok (.isub, 1) := by decide +kernel
theorem dX8_restore_40 : decode cX8_restore 40 = .ok (.if_icmp .ge 7, 3) := by decide +kernel
theorem dX8_restore_43 : decode cX8_restore 43 = .ok (.iload_n 2, 1) := by decide +kernel
theorem dX8_restore_44 : decode cX8_restore 44 = .ok (.goto 7, 3) := by decide +kernel
theorem dX8_restore_47 : decode cX8_restore 47 = .ok (.bipush 60, 2) := by decide +kernel
theorem dX8_restore_49 : decode cX8_restore 49 = .ok (.iload_n 3, 1) := by decide +kernel
theorem dX8_restore_50 : decode cX8_restore 50 = .ok (.isub, 1) := by decide +kernel
theorem dX8_restore_51 : decode cX8_restore 51 = .ok (.istore 4, 2) := by decide +kernel
theorem dX8_restore_53 : decode cX8_restore 53 = .ok (.iload_n 3, 1) := by decide +kernel
theorem dX8_restore_54 : decode cX8_restore 54 = .ok (.ifCond .eq 14, 3) := by decide +kernel
theorem dX8_restore_57 : decode cX8_restore 57 = .ok (.aload_n 0, 1) := by decide +kernel
theorem dX8_restore_58 : decode cX8_restore 58 = .ok (.getfield 25, 3) := by decide +kernel
theorem dX8_restore_61 : decode cX8_restore 61 = .ok (.iconst 1, 1) := by decide +kernel
theorem dX8_restore_62 : decode cX8_restore 62 = .ok (.iaload, 1) := by decide +kernel
theorem dX8_restore_63 : decode cX8_restore 63 = .ok (.iload 4, 2) := by decide +kernel
theorem dX8_restore_65 : decode cX8_restore 65 = .ok (.if_icmp .ge 6, 3) := by decide +kernel
theorem dX8_restore_68 : decode cX8_restore 68 = .ok (.ldc 169, 2) := by decide +kernel
theorem dX8_restore_70 : decode cX8_restore 70 = .ok (.ireturn, 1) := by decide +kernel
theorem dX8_restore_71 : decode cX8_restore 71 = .ok (.aload_n 0, 1) := by decide +kernel
theorem dX8_restore_72 : decode cX8_restore 72 = .ok (.invokevirtual 170, 3) := by decide +kernel
theorem dX8_restore_75 : decode cX8_restore 75 = .ok (.aload_n 0, 1) := by decide +kernel
theorem dX8_restore_76 : decode cX8_restore 76 = .ok (.getfield 25, 3) := by decide +kernel
theorem dX8_restore_79 : decode cX8_restore 79 = .ok (.iconst 1, 1) := by decide +kernel
theorem dX8_restore_80 : decode cX8_restore 80 = .ok (.dup2, 1) := by decide +kernel
theorem dX8_restore_81 : decode cX8_restore 81 = .ok (.iaload, 1) := by decide +kernel
theorem dX8_restore_82 : decode cX8_restore 82 = .ok (.iload 4, 2) := by decide +kernel
theorem dX8_restore_84 : decode cX8_restore 84 = .ok (.isub, 1) := by decide +kernel
theorem dX8_restore_85 : decode cX8_restore 85 = .ok (.iastore, 1) := by decide +kernel
theorem dX8_restore_86 : decode cX8_restore 86 = .ok (.aload_n 0, 1) := by decide +kernel
theorem dX8_restore_87 : decode cX8_restore 87 = .ok (.getfield 25, 3) := by decide +kernel
theorem dX8_restore_90 : decode cX8_restore 90 = .ok (.bipush 13, 2) := by decide +kernel
theorem dX8_restore_92 : decode cX8_restore 92 = .ok (.iconst 4, 1) := by decide +kernel
theorem dX8_restore_93 : decode cX8_restore 93 = .ok (.iload_n 1, 1) := by decide +kernel
theorem dX8_restore_94 : decode cX8_restore 94 = .ok (.imul, 1) := by decide +kernel
theorem dX8_restore_95 : decode cX8_restore 95 = .ok (.iadd, 1) := by decide +kernel
theorem dX8_restore_96 : decode cX8_restore 96 = .ok (.iconst 2, 1) := by decide +kernel
theorem dX8_restore_97 : decode cX8_restore 97 = .ok (.iadd, 1) := by decide +kernel
theorem dX8_restore_98 : decode cX8_restore 98 = .ok (.iload_n 3, 1) := by decide +kernel
theorem dX8_restore_99 : decode cX8_restore 99 = .ok (.iload 4, 2) := by decide +kernel
theorem dX8_restore_101 : decode cX8_restore 101 = .ok (.iadd, 1) := by decide +kernel
theorem dX8_restore_102 : decode cX8_restore 102 = .ok (.iastore, 1) := by decide +kernel
theorem dX8_restore_103 : decode cX8_restore 103 = .ok (.iload_n 3, 1) := by decide +kernel
theorem dX8_restore_104 : decode cX8_restore 104 = .ok (.iload 4, 2) := by decide +kernel
theorem dX8_restore_106 : decode cX8_restore 106 = .ok (.iadd, 1) := by decide +kernel
theorem dX8_restore_107 : decode cX8_restore 107 = .ok (.ireturn, 1) := by decide +kernel
theorem dX8_hang_0 : decode cX8_hang 0 = .ok (.aload_n 0, 1) := by decide +kernel
theorem dX8_hang_1 : decode cX8_hang 1 = .ok (.iload_n 1, 1) := by decide +kernel
theorem dX8_hang_2 : decode cX8_hang 2 = .ok (.invokevirtual 177, 3) := by decide +kernel
theorem dX8_hang_5 : decode cX8_hang 5 = .ok (.ifCond .eq 11, 3) := by decide +kernel
theorem dX8_hang_8 : decode cX8_hang 8 = .ok (.aload_n 0, 1) := by decide +kernel
theorem dX8_hang_9 : decode cX8_hang 9 = .ok (.iload_n 2, 1) := by decide +kernel
theorem dX8_hang_10 : decode cX8_hang 10 = .ok (.invokevirtual 180, 3) := by decide +kernel
theorem dX8_hang_13 : decode cX8_hang 13 = .ok (.ifCond .ne 6, 3) := by decide +kernel
theorem dX8_hang_16 : decode cX8_hang 16 = .ok (.ldc 67, 2) := by decide +kernel
theorem dX8_hang_18 : decode cX8_hang 18 = .ok (.ireturn, 1) := by decide +kernel
theorem dX8_hang_19 : decode cX8_hang 19 = .ok (.aload_n 0, 1) := by decide +kernel
theorem dX8_hang_20 : decode cX8_hang 20 = .ok (.getfield 25, 3) := by decide +kernel
theorem dX8_hang_23 : decode cX8_hang 23 = .ok (.bipush 13, 2) := by decide +kernel
theorem dX8_hang_25 : decode cX8_hang 25 = .ok (.iconst 4, 1) := by decide +kernel
theorem dX8_hang_26 : decode cX8_hang 26 = .ok (.iload_n 1, 1) := by decide +kernel
theorem dX8_hang_27 : decode cX8_hang 27 = .ok (.imul, 1) := by decide +kernel
theorem dX8_hang_28 : decode cX8_hang 28 = .ok (.iadd, 1) := by decide +kernel
theorem dX8_hang_29 : decode cX8_hang 29 = .ok (.iconst 3, 1) := by decide +kernel
theorem dX8_hang_30 : decode cX8_hang 30 = .ok (.iadd, 1) := by decide +kernel
theorem dX8_hang_31 : decode cX8_hang 31 = .ok (.iaload, 1) := by decide +kernel
theorem dX8_hang_32 : decode cX8_hang 32 = .ok (.istore_n 3, 1) := by decide +kernel
theorem dX8_hang_33 : decode cX8_hang 33 = .ok (.iload_n 3, 1) := by decide +kernel
theorem dX8_hang_34 : decode cX8_hang 34 = .ok (.iload_n 2, 1) := by decide +kernel
theorem dX8_hang_35 : decode cX8_hang 35 = .ok (.if_icmp .ne 6, 3) := by decide +kernel
theorem dX8_hang_38 : decode cX8_hang 38 = .ok (.ldc 169, 2) := by decide +kernel
theorem dX8_hang_40 : decode cX8_hang 40 = .ok (.ireturn, 1) := by decide +kernel
theorem dX8_hang_41 : decode cX8_hang 41 = .ok (.aload_n 0, 1) := by decide +kernel
theorem dX8_hang_42 : decode cX8_hang 42 = .ok (.getfield 25, 3) := by decide +kernel
theorem dX8_hang_45 : decode cX8_hang 45 = .ok (.iload_n 2, 1) := by decide +kernel
theorem dX8_hang_46 : decode cX8_hang 46 = .ok (.invokestatic 127, 3) := by decide +kernel
theorem dX8_hang_49 : decode cX8_hang 49 = .ok (.invokestatic 131, 3) := by decide +kernel
theorem dX8_hang_52 : decode cX8_hang 52 = .ok (.aload_n 0, 1) := by decide +kernel
theorem dX8_hang_53 : decode cX8_hang 53 = .ok (.getfield 25, 3) := by decide +kernel
theorem dX8_hang_56 : decode cX8_hang 56 = .ok (.iconst 0, 1) := by decide +kernel
theorem dX8_hang_57 : decode cX8_hang 57 = .ok (.iaload, 1) := by decide +kernel
theorem dX8_hang_58 : decode cX8_hang 58 = .ok (.if_icmp .lt 6, 3) := by decide +kernel
theorem dX8_hang_61 : decode cX8_hang 61 = .ok (.ldc 88, 2) := by decide +kernel
theorem dX8_hang_63 : decode cX8_hang 63 = .ok (.ireturn, 1) := by decide +kernel
theorem dX8_hang_64 : decode cX8_hang 64 = .ok (.aload_n 0, 1) := by decide +kernel
theorem dX8_hang_65 : decode cX8_hang 65 = .ok (.invokevirtual 170, 3) := by decide +kernel
theorem dX8_hang_68 : decode cX8_hang 68 = .ok (.aload_n 0, 1) := by decide +kernel
theorem dX8_hang_69 : decode cX8_hang 69 = .ok (.getfield 25, 3) := by decide +kernel
theorem dX8_hang_72 : decode cX8_hang 72 = .ok (.bipush 13, 2) := by decide +kernel
theorem dX8_hang_74 : decode cX8_hang 74 = .ok (.iconst 4, 1) := by decide +kernel
theorem dX8_hang_75 : decode cX8_hang 75 = .ok (.iload_n 1, 1) := by decide +kernel
theorem dX8_hang_76 : decode cX8_hang 76 = .ok (.imul, 1) := by decide +kernel
theorem dX8_hang_77 : decode cX8_hang 77 = .ok (.iadd, 1) := by decide +kernel
theorem dX8_hang_78 : decode cX8_hang 78 = .ok (.iconst 3, 1) := by decide +kernel
theorem dX8_hang_79 : decode cX8_hang 79 = .ok (.iadd, 1) := by decide +kernel
theorem dX8_hang_80 : decode cX8_hang 80 = .ok (.iload_n 2, 1) := by decide +kernel
theorem dX8_hang_81 : decode cX8_hang 81 = .ok (.iastore, 1) := by decide +kernel
theorem dX8_hang_82 : decode cX8_hang 82 = .ok (.iload_n 3, 1) := by decide +kernel
theorem dX8_hang_83 : decode cX8_hang 83 = .ok (.ireturn, 1) := by decide +kernel
theorem dX8_undo_0 : decode cX8_undo 0 = .ok (.aload_n 0, 1) := by decide +kernel
theorem dX8_undo_1 : decode cX8_undo 1 = .ok (.getfield 152, 3) := by decide +kernel
theorem dX8_undo_4 : decode cX8_undo 4 = .ok (.ifCond .ne 6, 3) := by decide +kernel
theorem dX8_undo_7 : decode cX8_undo 7 = .ok (.ldc 169, 2) := by decide +kernel
theorem dX8_undo_9 : decode cX8_undo 9 = .ok (.ireturn, 1) := by decide +kernel
theorem dX8_undo_10 : decode cX8_undo 10 = .ok (.aload_n 0, 1) := by decide +kernel
theorem dX8_undo_11 : decode cX8_undo 11 = .ok (.dup, 1) := by decide +kernel
theorem dX8_undo_12 : decode cX8_undo 12 = .ok (.getfield 152, 3) := by decide +kernel
theorem dX8_undo_15 : decode cX8_undo 15 = .ok (.iconst 1, 1) := by decide +kernel
theorem dX8_undo_16 : decode cX8_undo 16 = .ok (.isub, 1) := by decide +kernel
theorem dX8_undo_17 : decode cX8_undo 17 = .ok (.putfield 152, 3) := by decide +kernel
theorem dX8_undo_20 : decode cX8_undo 20 = .ok (.aload_n 0, 1) := by decide +kernel
theorem dX8_undo_21 : decode cX8_undo 21 = .ok (.getfield 34, 3) := by decide +kernel
theorem dX8_undo_24 : decode cX8_undo 24 = .ok (.bipush 33, 2) := by decide +kernel
theorem dX8_undo_26 : decode cX8_undo 26 = .ok (.aload_n 0, 1) := by decide +kernel
theorem dX8_undo_27 : decode cX8_undo 27 = .ok (.getfield 152, 3) := by decide +kernel
theorem dX8_undo_30 : decode cX8_undo 30 = .ok (.imul, 1) := by decide +kernel
theorem dX8_undo_31 : decode cX8_undo 31 = .ok (.aload_n 0, 1) := by decide +kernel
theorem dX8_undo_32 : decode cX8_undo 32 = .ok (.getfield 25, 3) := by decide +kernel
theorem dX8_undo_35 : decode cX8_undo 35 = .ok (.iconst 0, 1) := by decide +kernel
theorem dX8_undo_36 : decode cX8_undo 36 = .ok (.invokestatic 148, 3) := by decide +kernel
theorem dX8_undo_39 : decode cX8_undo 39 = .ok (.aload_n 0, 1) := by decide +kernel
theorem dX8_undo_40 : decode cX8_undo 40 = .ok (.getfield 152, 3) := by decide +kernel
theorem dX8_undo_43 : decode cX8_undo 43 = .ok (.ireturn, 1) := by decide +kernel
theorem dX8_picture_0 : decode cX8_picture 0 = .ok (.aload_n 0, 1) := by decide +kernel
theorem dX8_picture_1 : decode cX8_picture 1 = .ok (.iload_n 1, 1) := by decide +kernel
theorem dX8_picture_2 : decode cX8_picture 2 = .ok (.invokevirtual 177, 3) := by decide +kernel
theorem dX8_picture_5 : decode cX8_picture 5 = .ok (.ifCond .ne 6, 3) := by decide +kernel
theorem dX8_picture_8 : decode cX8_picture 8 = .ok (.ldc 67, 2) := by decide +kernel
theorem dX8_picture_10 : decode cX8_picture 10 = .ok (.ireturn, 1) := by decide +kernel
theorem dX8_picture_11 : decode cX8_picture 11 = .ok (.bipush 13, 2) := by decide +kernel
theorem dX8_picture_13 : decode cX8_picture 13 = .ok (.iconst 4, 1) := by decide +kernel
theorem dX8_picture_14 : decode cX8_picture 14 = .ok (.iload_n 1, 1) := by decide +kernel
theorem dX8_picture_15 : decode cX8_picture 15 = .ok (.imul, 1) := by decide +kernel
theorem dX8_picture_16 : decode cX8_picture 16 = .ok (.iadd, 1) := by decide +kernel
theorem dX8_picture_17 : decode cX8_picture 17 = .ok (.istore_n 3, 1) := by decide +kernel
theorem dX8_picture_18 : decode cX8_picture 18 = .ok (.iload_n 2, 1) := by decide +kernel
theorem dX8_picture_19 : decode cX8_picture 19 = .ok (.tableswitch 86 0 4 #[33, 42, 51, 60, 77], 33) := by decide +kernel
theorem dX8_picture_52 : decode cX8_picture 52 = .ok (.aload_n 0, 1) := by decide +kernel
theorem dX8_picture_53 : decode cX8_picture 53 = .ok (.getfield 25, 3) := by decide +kernel
theorem dX8_picture_56 : decode cX8_picture 56 = .ok (.iload_n 3, 1) := by decide +kernel
theorem dX8_picture_57 : decode cX8_picture 57 = .ok (.iconst 1, 1) := by decide +kernel
theorem dX8_picture_58 : decode cX8_picture 58 = .ok (.iadd, 1) := by decide +kernel
theorem dX8_picture_59 : decode cX8_picture 59 = .ok (.iaload, 1) := by decide +kernel
theorem dX8_picture_60 : decode cX8_picture 60 = .ok (.ireturn, 1) := by decide +kernel
theorem dX8_picture_61 : decode cX8_picture 61 = .ok (.aload_n 0, 1) := by decide +kernel
theorem dX8_picture_62 : decode cX8_picture 62 = .ok (.getfield 25, 3) := by decide +kernel
theorem dX8_picture_65 : decode cX8_picture 65 = .ok (.iload_n 3, 1) := by decide +kernel
theorem dX8_picture_66 : decode cX8_picture 66 = .ok (.iconst 2, 1) := by decide +kernel
theorem dX8_picture_67 : decode cX8_picture 67 = .ok (.iadd, 1) := by decide +kernel
theorem dX8_picture_68 : decode cX8_picture 68 = .ok (.iaload, 1) := by decide +kernel
theorem dX8_picture_69 : decode cX8_picture 69 = .ok (.ireturn, 1) := by decide +kernel
theorem dX8_picture_70 : decode cX8_picture 70 = .ok (.aload_n 0, 1) := by decide +kernel
theorem dX8_picture_71 : decode cX8_picture 71 = .ok (.getfield 25, 3) := by decide +kernel
theorem dX8_picture_74 : decode cX8_picture 74 = .ok (.iload_n 3, 1) := by decide +kernel
theorem dX8_picture_75 : decode cX8_picture 75 = .ok (.iconst 3, 1) := by decide +kernel
theorem dX8_picture_76 : decode cX8_picture 76 = .ok (.iadd, 1) := by decide +kernel
theorem dX8_picture_77 : decode cX8_picture 77 = .ok (.iaload, 1) := by decide +kernel
theorem dX8_picture_78 : decode cX8_picture 78 = .ok (.ireturn, 1) := by decide +kernel
theorem dX8_picture_79 : decode cX8_picture 79 = .ok (.aload_n 0, 1) := by decide +kernel
theorem dX8_picture_80 : decode cX8_picture 80 = .ok (.getfield 25, 3) := by decide +kernel
theorem dX8_picture_83 : decode cX8_picture 83 = .ok (.iload_n 3, 1) := by decide +kernel
theorem dX8_picture_84 : decode cX8_picture 84 = .ok (.iconst 2, 1) := by decide +kernel
theorem dX8_picture_85 : decode cX8_picture 85 = .ok (.iadd, 1) := by decide +kernel
theorem dX8_picture_86 : decode cX8_picture 86 = .ok (.iaload, 1) := by decide +kernel
theorem dX8_picture_87 : decode cX8_picture 87 = .ok (.ifCond .le 7, 3) := by decide +kernel
theorem dX8_picture_90 : decode cX8_picture 90 = .ok (.iconst 1, 1) := by decide +kernel
theorem dX8_picture_91 : decode cX8_picture 91 = .ok (.goto 4, 3) := by decide +kernel
theorem dX8_picture_94 : decode cX8_picture 94 = .ok (.iconst 0, 1) := by decide +kernel
theorem dX8_picture_95 : decode cX8_picture 95 = .ok (.ireturn, 1) := by decide +kernel
theorem dX8_picture_96 : decode cX8_picture 96 = .ok (.aload_n 0, 1) := by decide +kernel
theorem dX8_picture_97 : decode cX8_picture 97 = .ok (.getfield 25, 3) := by decide +kernel
theorem dX8_picture_100 : decode cX8_picture 100 = .ok (.iload_n 1, 1) := by decide +kernel
theorem dX8_picture_101 : decode cX8_picture 101 = .ok (.invokestatic 155, 3) := by decide +kernel
theorem dX8_picture_104 : decode cX8_picture 104 = .ok (.ireturn, 1) := by decide +kernel
theorem dX8_picture_105 : decode cX8_picture 105 = .ok (.ldc 67, 2) := by decide +kernel
theorem dX8_picture_107 : decode cX8_picture 107 = .ok (.ireturn, 1) := by decide +kernel
theorem dX8_wall_0 : decode cX8_wall 0 = .ok (.aload_n 0, 1) := by decide +kernel
theorem dX8_wall_1 : decode cX8_wall 1 = .ok (.iload_n 1, 1) := by decide +kernel
theorem dX8_wall_2 : decode cX8_wall 2 = .ok (.invokevirtual 180, 3) := by decide +kernel
theorem dX8_wall_5 : decode cX8_wall 5 = .ok (.ifCond .eq 12, 3) := by decide +kernel
theorem dX8_wall_8 : decode cX8_wall 8 = .ok (.iload_n 2, 1) := by decide +kernel
theorem dX8_wall_9 : decode cX8_wall 9 = .ok (.iconst 0, 1) := by decide +kernel
theorem dX8_wall_10 : decode cX8_wall 10 = .ok (.iconst 2, 1) := by decide +kernel
theorem dX8_wall_11 : decode cX8_wall 11 = .ok (.invokestatic 59, 3) := by decide +kernel
theorem dX8_wall_14 : decode cX8_wall 14 = .ok (.ifCond .ne 6, 3) := by decide +kernel
theorem dX8_wall_17 : decode cX8_wall 17 = .ok (.ldc 67, 2) := by decide +kernel
theorem dX8_wall_19 : decode cX8_wall 19 = .ok (.ireturn, 1) := by decide +kernel
theorem dX8_wall_20 : decode cX8_wall 20 = .ok (.iload_n 2, 1) := by decide +kernel
theorem dX8_wall_21 : decode cX8_wall 21 = .ok (.iconst 2, 1) := by decide +kernel
theorem dX8_wall_22 : decode cX8_wall 22 = .ok (.if_icmp .ge 18, 3) := by decide +kernel
theorem dX8_wall_25 : decode cX8_wall 25 = .ok (.aload_n 0, 1) := by decide +kernel
theorem dX8_wall_26 : decode cX8_wall 26 = .ok (.getfield 25, 3) := by decide +kernel
theorem dX8_wall_29 : decode cX8_wall 29 = .ok (.iconst 4, 1) := by decide +kernel
theorem dX8_wall_30 : decode cX8_wall 30 = .ok (.iconst 2, 1) := by decide +kernel
theorem dX8_wall_31 : decode cX8_wall 31 = .ok (.iload_n 1, 1) := by decide +kernel
theorem dX8_wall_32 : decode cX8_wall 32 = .ok (.imul, 1) := by decide +kernel
theorem dX8_wall_33 : decode cX8_wall 33 = .ok (.iadd, 1) := by decide +kernel
theorem dX8_wall_34 : decode cX8_wall 34 = .ok (.iload_n 2, 1) := by decide +kernel
theorem dX8_wall_35 : decode cX8_wall 35 = .ok (.iadd, 1) := by decide +kernel
theorem dX8_wall_36 : decode cX8_wall 36 = .ok (.iaload, 1) := by decide +kernel
theorem dX8_wall_37 : decode cX8_wall 37 = .ok (.goto 11, 3) := by decide +kernel
theorem dX8_wall_40 : decode cX8_wall 40 = .ok (.aload_n 0, 1) := by decide +kernel
theorem dX8_wall_41 : decode cX8_wall 41 = .ok (.getfield 25, 3) := by decide +kernel
theorem dX8_wall_44 : decode cX8_wall 44 = .ok (.iload_n 1, 1) := by decide +kernel
theorem dX8_wall_45 : decode cX8_wall 45 = .ok (.invokestatic 127, 3) := by decide +kernel
theorem dX8_wall_48 : decode cX8_wall 48 = .ok (.ireturn, 1) := by decide +kernel
theorem dX8_remains_0 : decode cX8_remains 0 = .ok (.aload_n 0, 1) := by decide +kernel
theorem dX8_remains_1 : decode cX8_remains 1 = .ok (.iload_n 1, 1) := by decide +kernel
theorem dX8_remains_2 : decode cX8_remains 2 = .ok (.invokevirtual 177, 3) := by decide +kernel
theorem dX8_remains_5 : decode cX8_remains 5 = .ok (.ifCond .eq 10, 3) := by decide +kernel
theorem dX8_remains_8 : decode cX8_remains 8 = .ok (.iload_n 2, 1) := by decide +kernel
theorem dX8_remains_9 : decode cX8_remains 9 = .ok (.invokestatic 183, 3) := by decide +kernel
theorem dX8_remains_12 : decode cX8_remains 12 = .ok (.ifCond .ne 6, 3) := by decide +kernel
theorem dX8_remains_15 : decode cX8_remains 15 = .ok (.ldc 67, 2) := by decide +kernel
theorem dX8_remains_17 : decode cX8_remains 17 = .ok (.ireturn, 1) := by decide +kernel
theorem dX8_remains_18 : decode cX8_remains 18 = .ok (.aload_n 0, 1) := by decide +kernel
theorem dX8_remains_19 : decode cX8_remains 19 = .ok (.invokevirtual 186, 3) := by decide +kernel
theorem dX8_remains_22 : decode cX8_remains 22 = .ok (.aload_n 0, 1) := by decide +kernel
theorem dX8_remains_23 : decode cX8_remains 23 = .ok (.iload_n 2, 1) := by decide +kernel
theorem dX8_remains_24 : decode cX8_remains 24 = .ok (.invokevirtual 189, 3) := by decide +kernel
theorem dX8_remains_27 : decode cX8_remains 27 = .ok (.aload_n 0, 1) := by decide +kernel
theorem dX8_remains_28 : decode cX8_remains 28 = .ok (.getfield 31, 3) := by decide +kernel
theorem dX8_remains_31 : decode cX8_remains 31 = .ok (.bipush 13, 2) := by decide +kernel
theorem dX8_remains_33 : decode cX8_remains 33 = .ok (.iconst 4, 1) := by decide +kernel
theorem dX8_remains_34 : decode cX8_remains 34 = .ok (.iload_n 1, 1) := by decide +kernel
theorem dX8_remains_35 : decode cX8_remains 35 = .ok (.imul, 1) := by decide +kernel
theorem dX8_remains_36 : decode cX8_remains 36 = .ok (.iadd, 1) := by decide +kernel
theorem dX8_remains_37 : decode cX8_remains 37 = .ok (.iconst 2, 1) := by decide +kernel
theorem dX8_remains_38 : decode cX8_remains 38 = .ok (.iadd, 1) := by decide +kernel
theorem dX8_remains_39 : decode cX8_remains 39 = .ok (.iaload, 1) := by decide +kernel
theorem dX8_remains_40 : decode cX8_remains 40 = .ok (.ireturn, 1) := by decide +kernel
theorem dX8_lives_0 : decode cX8_lives 0 = .ok (.aload_n 0, 1) := by decide +kernel
theorem dX8_lives_1 : decode cX8_lives 1 = .ok (.invokevirtual 166, 3) := by decide +kernel
theorem dX8_lives_4 : decode cX8_lives 4 = .ok (.ifCond .ne 6, 3) := by decide +kernel
theorem dX8_lives_7 : decode cX8_lives 7 = .ok (.ldc 169, 2) := by decide +kernel
theorem dX8_lives_9 : decode cX8_lives 9 = .ok (.ireturn, 1) := by decide +kernel
theorem dX8_lives_10 : decode cX8_lives 10 = .ok (.iload_n 1, 1) := by decide +kernel
theorem dX8_lives_11 : decode cX8_lives 11 = .ok (.invokestatic 183, 3) := by decide +kernel
theorem dX8_lives_14 : decode cX8_lives 14 = .ok (.ifCond .ne 6, 3) := by decide +kernel
theorem dX8_lives_17 : decode cX8_lives 17 = .ok (.ldc 67, 2) := by decide +kernel
theorem dX8_lives_19 : decode cX8_lives 19 = .ok (.ireturn, 1) := by decide +kernel
theorem dX8_lives_20 : decode cX8_lives 20 = .ok (.aload_n 0, 1) := by decide +kernel
theorem dX8_lives_21 : decode cX8_lives 21 = .ok (.invokevirtual 186, 3) := by decide +kernel
theorem dX8_lives_24 : decode cX8_lives 24 = .ok (.aload_n 0, 1) := by decide +kernel
theorem dX8_lives_25 : decode cX8_lives 25 = .ok (.iload_n 1, 1) := by decide +kernel
theorem dX8_lives_26 : decode cX8_lives 26 = .ok (.invokevirtual 189, 3) := by decide +kernel
theorem dX8_lives_29 : decode cX8_lives 29 = .ok (.aload_n 0, 1) := by decide +kernel
theorem dX8_lives_30 : decode cX8_lives 30 = .ok (.getfield 31, 3) := by decide +kernel
theorem dX8_lives_33 : decode cX8_lives 33 = .ok (.invokestatic 173, 3) := by decide +kernel
theorem dX8_lives_36 : decode cX8_lives 36 = .ok (.ireturn, 1) := by decide +kernel
theorem dX8_dies_0 : decode cX8_dies 0 = .ok (.aload_n 0, 1) := by decide +kernel
theorem dX8_dies_1 : decode cX8_dies 1 = .ok (.iload_n 1, 1) := by decide +kernel
theorem dX8_dies_2 : decode cX8_dies 2 = .ok (.invokevirtual 177, 3) := by decide +kernel
theorem dX8_dies_5 : decode cX8_dies 5 = .ok (.ifCond .ne 6, 3) := by decide +kernel
theorem dX8_dies_8 : decode cX8_dies 8 = .ok (.ldc 67, 2) := by decide +kernel
theorem dX8_dies_10 : decode cX8_dies 10 = .ok (.ireturn, 1) := by decide +kernel
theorem dX8_dies_11 : decode cX8_dies 11 = .ok (.aload_n 0, 1) := by decide +kernel
theorem dX8_dies_12 : decode cX8_dies 12 = .ok (.invokevirtual 186, 3) := by decide +kernel
theorem dX8_dies_15 : decode cX8_dies 15 = .ok (.iconst 0, 1) := by decide +kernel
theorem dX8_dies_16 : decode cX8_dies 16 = .ok (.istore_n 2, 1) := by decide +kernel
theorem dX8_dies_17 : decode cX8_dies 17 = .ok (.iload_n 2, 1) := by decide +kernel
theorem dX8_dies_18 : decode cX8_dies 18 = .ok (.bipush 100, 2) := by decide +kernel
theorem dX8_dies_20 : decode cX8_dies 20 = .ok (.if_icmp .ge 34, 3) := by decide +kernel
theorem dX8_dies_23 : decode cX8_dies 23 = .ok (.aload_n 0, 1) := by decide +kernel
theorem dX8_dies_24 : decode cX8_dies 24 = .ok (.getfield 31, 3) := by decide +kernel
theorem dX8_dies_27 : decode cX8_dies 27 = .ok (.bipush 13, 2) := by decide +kernel
theorem dX8_dies_29 : decode cX8_dies 29 = .ok (.iconst 4, 1) := by decide +kernel
theorem dX8_dies_30 : decode cX8_dies 30 = .ok (.iload_n 1, 1) := by decide +kernel
theorem dX8_dies_31 : decode cX8_dies 31 = .ok (.imul, 1) := by decide +kernel
theorem dX8_dies_32 : decode cX8_dies 32 = .ok (.iadd, 1) := by decide +kernel
theorem dX8_dies_33 : decode cX8_dies 33 = .ok (.iconst 2, 1) := by decide +kernel
theorem dX8_dies_34 : decode cX8_dies 34 = .ok (.iadd, 1) := by decide +kernel
theorem dX8_dies_35 : decode cX8_dies 35 = .ok (.iaload, 1) := by decide +kernel
theorem dX8_dies_36 : decode cX8_dies 36 = .ok (.ifCond .ne 5, 3) := by decide +kernel
theorem dX8_dies_39 : decode cX8_dies 39 = .ok (.iload_n 2, 1) := by decide +kernel
theorem dX8_dies_40 : decode cX8_dies 40 = .ok (.ireturn, 1) := by decide +kernel
theorem dX8_dies_41 : decode cX8_dies 41 = .ok (.aload_n 0, 1) := by decide +kernel
theorem dX8_dies_42 : decode cX8_dies 42 = .ok (.getfield 31, 3) := by decide +kernel
theorem dX8_dies_45 : decode cX8_dies 45 = .ok (.invokestatic 162, 3) := by decide +kernel
theorem dX8_dies_48 : decode cX8_dies 48 = .ok (.iinc 2 1, 3) := by decide +kernel
theorem dX8_dies_51 : decode cX8_dies 51 = .ok (.goto (-34), 3) := by decide +kernel
theorem dX8_dies_54 : decode cX8_dies 54 = .ok (.ldc 53, 2) := by decide +kernel
theorem dX8_dies_56 : decode cX8_dies 56 = .ok (.ireturn, 1) := by decide +kernel
theorem dX8_first_0 : decode cX8_first 0 = .ok (.aload_n 0, 1) := by decide +kernel
theorem dX8_first_1 : decode cX8_first 1 = .ok (.invokevirtual 166, 3) := by decide +kernel
theorem dX8_first_4 : decode cX8_first 4 = .ok (.ifCond .ne 6, 3) := by decide +kernel
theorem dX8_first_7 : decode cX8_first 7 = .ok (.ldc 169, 2) := by decide +kernel
theorem dX8_first_9 : decode cX8_first 9 = .ok (.ireturn, 1) := by decide +kernel
theorem dX8_first_10 : decode cX8_first 10 = .ok (.iload_n 1, 1) := by decide +kernel
theorem dX8_first_11 : decode cX8_first 11 = .ok (.iconst 0, 1) := by decide +kernel
theorem dX8_first_12 : decode cX8_first 12 = .ok (.iconst 1, 1) := by decide +kernel
theorem dX8_first_13 : decode cX8_first 13 = .ok (.invokestatic 59, 3) := by decide +kernel
theorem dX8_first_16 : decode cX8_first 16 = .ok (.ifCond .ne 6, 3) := by decide +kernel
theorem dX8_first_19 : decode cX8_first 19 = .ok (.ldc 67, 2) := by decide +kernel
theorem dX8_first_21 : decode cX8_first 21 = .ok (.ireturn, 1) := by decide +kernel
theorem dX8_first_22 : decode cX8_first 22 = .ok (.aload_n 0, 1) := by decide +kernel
theorem dX8_first_23 : decode cX8_first 23 = .ok (.invokevirtual 186, 3) := by decide +kernel
theorem dX8_first_26 : decode cX8_first 26 = .ok (.aload_n 0, 1) := by decide +kernel
theorem dX8_first_27 : decode cX8_first 27 = .ok (.getfield 25, 3) := by decide +kernel
theorem dX8_first_30 : decode cX8_first 30 = .ok (.invokestatic 173, 3) := by decide +kernel
theorem dX8_first_33 : decode cX8_first 33 = .ok (.istore_n 2, 1) := by decide +kernel
theorem dX8_first_34 : decode cX8_first 34 = .ok (.iconst 1, 1) := by decide +kernel
theorem dX8_first_35 : decode cX8_first 35 = .ok (.istore_n 3, 1) := by decide +kernel
theorem dX8_first_36 : decode cX8_first 36 = .ok (.iload_n 3, 1) := by decide +kernel
theorem dX8_first_37 : decode cX8_first 37 = .ok (.bipush 100, 2) := by decide +kernel
theorem dX8_first_39 : decode cX8_first 39 = .ok (.if_icmp .ge 71, 3) := by decide +kernel
theorem dX8_first_42 : decode cX8_first 42 = .ok (.aload_n 0, 1) := by decide +kernel
theorem dX8_first_43 : decode cX8_first 43 = .ok (.getfield 31, 3) := by decide +kernel
theorem dX8_first_46 : decode cX8_first 46 = .ok (.invokestatic 162, 3) := by decide +kernel
theorem dX8_first_49 : decode cX8_first 49 = .ok (.iload_n 2, 1) := by decide +kernel
theorem dX8_first_50 : decode cX8_first 50 = .ok (.aload_n 0, 1) := by decide +kernel
theorem dX8_first_51 : decode cX8_first 51 = .ok (.getfield 31, 3) := by decide +kernel
theorem dX8_first_54 : decode cX8_first 54 = .ok (.invokestatic 173, 3) := by decide +kernel
theorem dX8_first_57 : decode cX8_first 57 = .ok (.iconst (-1), 1) := by decide +kernel
theorem dX8_first_58 : decode cX8_first 58 = .ok (.ixor, 1) := by decide +kernel
theorem dX8_first_59 : decode cX8_first 59 = .ok (.iand, 1) := by decide +kernel
theorem dX8_first_60 : decode cX8_first 60 = .ok (.istore 4, 2) := by decide +kernel
theorem dX8_first_62 : decode cX8_first 62 = .ok (.iconst 0, 1) := by decide +kernel
theorem dX8_first_63 : decode cX8_first 63 = .ok (.istore 5, 2) := by decide +kernel
theorem dX8_first_65 : decode cX8_first 65 = .ok (.iload 5, 2) := by decide +kernel
theorem dX8_first_67 : decode cX8_first 67 = .ok (.aload_n 0, 1) := by decide +kernel
theorem dX8_first_68 : decode cX8_first 68 = .ok (.getfield 25, 3) := by decide +kernel
theorem dX8_first_71 : decode cX8_first 71 = .ok (.bipush 12, 2) := by decide +kernel
theorem dX8_first_73 : decode cX8_first 73 = .ok (.iaload, 1) := by decide +kernel
theorem dX8_first_74 : decode cX8_first 74 = .ok (.if_icmp .ge 30, 3) := by decide +kernel
theorem dX8_first_77 : decode cX8_first 77 = .ok (.iload 4, 2) := by decide +kernel
theorem dX8_first_79 : decode cX8_first 79 = .ok (.iload 5, 2) := by decide +kernel
theorem dX8_first_81 : decode cX8_first 81 = .ok (.invokestatic 193, 3) := by decide +kernel
theorem dX8_first_84 : decode cX8_first 84 = .ok (.ifCond .eq 14, 3) := by decide +kernel
theorem dX8_first_87 : decode cX8_first 87 = .ok (.iload_n 1, 1) := by decide +kernel
theorem dX8_first_88 : decode cX8_first 88 = .ok (.ifCond .ne 8, 3) := by decide +kernel
theorem dX8_first_91 : decode cX8_first 91 = .ok (.iload 5, 2) := by decide +kernel
theorem dX8_first_93 : decode cX8_first 93 = .ok (.goto 4, 3) := by decide +kernel
theorem dX8_first_96 : decode cX8_first 96 = .ok (.iload_n 3, 1) := by decide +kernel
theorem dX8_first_97 : decode cX8_first 97 = .ok (.ireturn, 1) := by decide +kernel
theorem dX8_first_98 : decode cX8_first 98 = .ok (.iinc 5 1, 3) := by decide +kernel
theorem dX8_first_101 : decode cX8_first 101 = .ok (.goto (-36), 3) := by decide +kernel
theorem dX8_first_104 : decode cX8_first 104 = .ok (.iinc 3 1, 3) := by decide +kernel
theorem dX8_first_107 : decode cX8_first 107 = .ok (.goto (-71), 3) := by decide +kernel
theorem dX8_first_110 : decode cX8_first 110 = .ok (.ldc 53, 2) := by decide +kernel
theorem dX8_first_112 : decode cX8_first 112 = .ok (.ireturn, 1) := by decide +kernel
theorem dX8_nextHanging_0 : decode cX8_nextHanging 0 = .ok (.aload_n 0, 1) := by decide +kernel
theorem dX8_nextHanging_1 : decode cX8_nextHanging 1 = .ok (.getfield 25, 3) := by decide +kernel
theorem dX8_nextHanging_4 : decode cX8_nextHanging 4 = .ok (.bipush 12, 2) := by decide +kernel
theorem dX8_nextHanging_6 : decode cX8_nextHanging 6 = .ok (.iaload, 1) := by decide +kernel
theorem dX8_nextHanging_7 : decode cX8_nextHanging 7 = .ok (.iconst 1, 1) := by decide +kernel
theorem dX8_nextHanging_8 : decode cX8_nextHanging 8 = .ok (.isub, 1) := by decide +kernel
theorem dX8_nextHanging_9 : decode cX8_nextHanging 9 = .ok (.istore_n 1, 1) := by decide +kernel
theorem dX8_nextHanging_10 : decode cX8_nextHanging 10 = .ok (.iload_n 1, 1) := by decide +kernel
theorem dX8_nextHanging_11 : decode cX8_nextHanging 11 = .ok (.ifCond .lt 43, 3) := by decide +kernel
theorem dX8_nextHanging_14 : decode cX8_nextHanging 14 = .ok (.aload_n 0, 1) := by decide +kernel
theorem dX8_nextHanging_15 : decode cX8_nextHanging 15 = .ok (.getfield 44, 3) := by decide +kernel
theorem dX8_nextHanging_18 : decode cX8_nextHanging 18 = .ok (.iload_n 1, 1) := by decide +kernel
theorem dX8_nextHanging_19 : decode cX8_nextHanging 19 = .ok (.dup2, 1) := by decide +kernel
theorem dX8_nextHanging_20 : decode cX8_nextHanging 20 = .ok (.iaload, 1) := by decide +kernel
theorem dX8_nextHanging_21 : decode cX8_nextHanging 21 = .ok (.iconst 1, 1) := by decide +kernel
theorem dX8_nextHanging_22 : decode cX8_nextHanging 22 = .ok (.iadd, 1) := by decide +kernel
theorem dX8_nextHanging_23 : decode cX8_nextHanging 23 = .ok (.iastore, 1) := by decide +kernel
theorem dX8_nextHanging_24 : decode cX8_nextHanging 24 = .ok (.aload_n 0, 1) := by decide +kernel
theorem dX8_nextHanging_25 : decode cX8_nextHanging 25 = .ok (.getfield 44, 3) := by decide +kernel
theorem dX8_nextHanging_28 : decode cX8_nextHanging 28 = .ok (.iload_n 1, 1) := by decide +kernel
theorem dX8_nextHanging_29 : decode cX8_nextHanging 29 = .ok (.iaload, 1) := by decide +kernel
theorem dX8_nextHanging_30 : decode cX8_nextHanging 30 = .ok (.aload_n 0, 1) := by decide +kernel
theorem dX8_nextHanging_31 : decode cX8_nextHanging 31 = .ok (.getfield 25, 3) := by decide +kernel
theorem dX8_nextHanging_34 : decode cX8_nextHanging 34 = .ok (.iconst 3, 1) := by decide +kernel
theorem dX8_nextHanging_35 : decode cX8_nextHanging 35 = .ok (.iaload, 1) := by decide +kernel
theorem dX8_nextHanging_36 : decode cX8_nextHanging 36 = .ok (.if_icmp .ge 5, 3) := by decide +kernel
theorem dX8_nextHanging_39 : decode cX8_nextHanging 39 = .ok (.iconst 1, 1) := by decide +kernel
theorem dX8_nextHanging_40 : decode cX8_nextHanging 40 = .ok (.ireturn, 1) := by decide +kernel
theorem dX8_nextHanging_41 : decode cX8_nextHanging 41 = .ok (.aload_n 0, 1) := by decide +kernel
theorem dX8_nextHanging_42 : decode cX8_nextHanging 42 = .ok (.getfield 44, 3) := by decide +kernel
theorem dX8_nextHanging_45 : decode cX8_nextHanging 45 = .ok (.iload_n 1, 1) := by decide +kernel
theorem dX8_nextHanging_46 : decode cX8_nextHanging 46 = .ok (.iconst 0, 1) := by decide +kernel
theorem dX8_nextHanging_47 : decode cX8_nextHanging 47 = .ok (.iastore, 1) := by decide +kernel
theorem dX8_nextHanging_48 : decode cX8_nextHanging 48 = .ok (.iinc 1 (-1), 3) := by decide +kernel
theorem dX8_nextHanging_51 : decode cX8_nextHanging 51 = .ok (.goto (-41), 3) := by decide +kernel
theorem dX8_nextHanging_54 : decode cX8_nextHanging 54 = .ok (.iconst 0, 1) := by decide +kernel
theorem dX8_nextHanging_55 : decode cX8_nextHanging 55 = .ok (.ireturn, 1) := by decide +kernel
theorem dX8_isRoom_0 : decode cX8_isRoom 0 = .ok (.iconst 1, 1) := by decide +kernel
theorem dX8_isRoom_1 : decode cX8_isRoom 1 = .ok (.istore_n 1, 1) := by decide +kernel
theorem dX8_isRoom_2 : decode cX8_isRoom 2 = .ok (.iconst 0, 1) := by decide +kernel
theorem dX8_isRoom_3 : decode cX8_isRoom 3 = .ok (.istore_n 2, 1) := by decide +kernel
theorem dX8_isRoom_4 : decode cX8_isRoom 4 = .ok (.iload_n 2, 1) := by decide +kernel
theorem dX8_isRoom_5 : decode cX8_isRoom 5 = .ok (.aload_n 0, 1) := by decide +kernel
theorem dX8_isRoom_6 : decode cX8_isRoom 6 = .ok (.getfield 25, 3) := by decide +kernel
theorem dX8_isRoom_9 : decode cX8_isRoom 9 = .ok (.iconst 3, 1) := by decide +kernel
theorem dX8_isRoom_10 : decode cX8_isRoom 10 = .ok (.iaload, 1) := by decide +kernel
theorem dX8_isRoom_11 : decode cX8_isRoom 11 = .ok (.if_icmp .ge 39, 3) := by decide +kernel
theorem dX8_isRoom_14 : decode cX8_isRoom 14 = .ok (.iload_n 1, 1) := by decide +kernel
theorem dX8_isRoom_15 : decode cX8_isRoom 15 = .ok (.ifCond .eq 27, 3) := by decide +kernel
theorem dX8_isRoom_18 : decode cX8_isRoom 18 = .ok (.aload_n 0, 1) := by decide +kernel
theorem dX8_isRoom_19 : decode cX8_isRoom 19 = .ok (.getfield 31, 3) := by decide +kernel
theorem dX8_isRoom_22 : decode cX8_isRoom 22 = .ok (.iload_n 2, 1) := by decide +kernel
theorem dX8_isRoom_23 : decode cX8_isRoom 23 = .ok (.invokestatic 127, 3) := by decide +kernel
theorem dX8_isRoom_26 : decode cX8_isRoom 26 = .ok (.invokestatic 131, 3) := by decide +kernel
theorem dX8_isRoom_29 : decode cX8_isRoom 29 = .ok (.aload_n 0, 1) := by decide +kernel
theorem dX8_isRoom_30 : decode cX8_isRoom 30 = .ok (.getfield 25, 3) := by decide +kernel
theorem dX8_isRoom_33 : decode cX8_isRoom 33 = .ok (.iconst 0, 1) := by decide +kernel
theorem dX8_isRoom_34 : decode cX8_isRoom 34 = .ok (.iaload, 1) := by decide +kernel
theorem dX8_isRoom_35 : decode cX8_isRoom 35 = .ok (.if_icmp .gt 7, 3) := by decide +kernel
theorem dX8_isRoom_38 : decode cX8_isRoom 38 = .ok (.iconst 1, 1) := by decide +kernel
theorem dX8_isRoom_39 : decode cX8_isRoom 39 = .ok (.goto 4, 3) := by decide +kernel
theorem dX8_isRoom_42 : decode cX8_isRoom 42 = .ok (.iconst 0, 1) := by decide +kernel
theorem dX8_isRoom_43 : decode cX8_isRoom 43 = .ok (.istore_n 1, 1) := by decide +kernel
theorem dX8_isRoom_44 : decode cX8_isRoom 44 = .ok (.iinc 2 1, 3) := by decide +kernel
theorem dX8_isRoom_47 : decode cX8_isRoom 47 = .ok (.goto (-43), 3) := by decide +kernel
theorem dX8_isRoom_50 : decode cX8_isRoom 50 = .ok (.iload_n 1, 1) := by decide +kernel
theorem dX8_isRoom_51 : decode cX8_isRoom 51 = .ok (.ireturn, 1) := by decide +kernel
theorem dX8_hanging_0 : decode cX8_hanging 0 = .ok (.aload_n 0, 1) := by decide +kernel
theorem dX8_hanging_1 : decode cX8_hanging 1 = .ok (.invokevirtual 166, 3) := by decide +kernel
theorem dX8_hanging_4 : decode cX8_hanging 4 = .ok (.ifCond .ne 6, 3) := by decide +kernel
theorem dX8_hanging_7 : decode cX8_hanging 7 = .ok (.ldc 169, 2) := by decide +kernel
theorem dX8_hanging_9 : decode cX8_hanging 9 = .ok (.ireturn, 1) := by decide +kernel
theorem dX8_hanging_10 : decode cX8_hanging 10 = .ok (.iload_n 1, 1) := by decide +kernel
theorem dX8_hanging_11 : decode cX8_hanging 11 = .ok (.invokestatic 183, 3) := by decide +kernel
theorem dX8_hanging_14 : decode cX8_hanging 14 = .ok (.ifCond .eq 13, 3) := by decide +kernel
theorem dX8_hanging_17 : decode cX8_hanging 17 = .ok (.iload_n 2, 1) := by decide +kernel
theorem dX8_hanging_18 : decode cX8_hanging 18 = .ok (.bipush (-2), 2) := by decide +kernel
theorem dX8_hanging_20 : decode cX8_hanging 20 = .ok (.iconst 4, 1) := by decide +kernel
theorem dX8_hanging_21 : decode cX8_hanging 21 = .ok (.invokestatic 59, 3) := by decide +kernel
theorem dX8_hanging_24 : decode cX8_hanging 24 = .ok (.ifCond .ne 6, 3) := by decide +kernel
theorem dX8_hanging_27 : decode cX8_hanging 27 = .ok (.ldc 67, 2) := by decide +kernel
theorem dX8_hanging_29 : decode cX8_hanging 29 = .ok (.ireturn, 1) := by decide +kernel
theorem dX8_hanging_30 : decode cX8_hanging 30 = .ok (.iconst 0, 1) := by decide +kernel
theorem dX8_hanging_31 : decode cX8_hanging 31 = .ok (.istore_n 3, 1) := by decide +kernel
theorem dX8_hanging_32 : decode cX8_hanging 32 = .ok (.iload_n 3, 1) := by decide +kernel
theorem dX8_hanging_33 : decode cX8_hanging 33 = .ok (.iconst 5, 1) := by decide +kernel
theorem dX8_hanging_34 : decode cX8_hanging 34 = .ok (.if_icmp .ge 16, 3) := by decide +kernel
theorem dX8_hanging_37 : decode cX8_hanging 37 = .ok (.aload_n 0, 1) := by decide +kernel
theorem dX8_hanging_38 : decode cX8_hanging 38 = .ok (.getfield 44, 3) := by decide +kernel
theorem dX8_hanging_41 : decode cX8_hanging 41 = .ok (.iload_n 3, 1) := by decide +kernel
theorem dX8_hanging_42 : decode cX8_hanging 42 = .ok (.iconst 0, 1) := by decide +kernel
theorem dX8_hanging_43 : decode cX8_hanging 43 = .ok (.iastore, 1) := by decide +kernel
theorem dX8_hanging_44 : decode cX8_hanging 44 = .ok (.iinc 3 1, 3) := by decide +kernel
theorem dX8_hanging_47 : decode cX8_hanging 47 = .ok (.goto (-15), 3) := by decide +kernel
theorem dX8_hanging_50 : decode cX8_hanging 50 = .ok (.ldc 53, 2) := by decide +kernel
theorem dX8_hanging_52 : decode cX8_hanging 52 = .ok (.istore_n 3, 1) := by decide +kernel
theorem dX8_hanging_53 : decode cX8_hanging 53 = .ok (.ldc 53, 2) := by decide +kernel
theorem dX8_hanging_55 : decode cX8_hanging 55 = .ok (.istore 4, 2) := by decide +kernel
theorem dX8_hanging_57 : decode cX8_hanging 57 = .ok (.iconst 1, 1) := by decide +kernel
theorem dX8_hanging_58 : decode cX8_hanging 58 = .ok (.istore 5, 2) := by decide +kernel
theorem dX8_hanging_60 : decode cX8_hanging 60 = .ok (.iload 5, 2) := by decide +kernel
theorem dX8_hanging_62 : decode cX8_hanging 62 = .ok (.ifCond .eq 183, 3) := by decide +kernel
theorem dX8_hanging_65 : decode cX8_hanging 65 = .ok (.aload_n 0, 1) := by decide +kernel
theorem dX8_hanging_66 : decode cX8_hanging 66 = .ok (.invokevirtual 186, 3) := by decide +kernel
theorem dX8_hanging_69 : decode cX8_hanging 69 = .ok (.iconst 0, 1) := by decide +kernel
theorem dX8_hanging_70 : decode cX8_hanging 70 = .ok (.istore 6, 2) := by decide +kernel
theorem dX8_hanging_72 : decode cX8_hanging 72 = .ok (.iload 6, 2) := by decide +kernel
theorem dX8_hanging_74 : decode cX8_hanging 74 = .ok (.aload_n 0, 1) := by decide +kernel
theorem dX8_hanging_75 : decode cX8_hanging 75 = .ok (.getfield 25, 3) := by decide +kernel
theorem dX8_hanging_78 : decode cX8_hanging 78 = .ok (.bipush 12, 2) := by decide +kernel
theorem dX8_hanging_80 : decode cX8_hanging 80 = .ok (.iaload, 1) := by decide +kernel
theorem dX8_hanging_81 : decode cX8_hanging 81 = .ok (.if_icmp .ge 30, 3) := by decide +kernel
theorem dX8_hanging_84 : decode cX8_hanging 84 = .ok (.aload_n 0, 1) := by decide +kernel
theorem dX8_hanging_85 : decode cX8_hanging 85 = .ok (.getfield 31, 3) := by decide +kernel
theorem dX8_hanging_88 : decode cX8_hanging 88 = .ok (.bipush 13, 2) := by decide +kernel
theorem dX8_hanging_90 : decode cX8_hanging 90 = .ok (.iconst 4, 1) := by decide +kernel
theorem dX8_hanging_91 : decode cX8_hanging 91 = .ok (.iload 6, 2) := by decide +kernel
theorem dX8_hanging_93 : decode cX8_hanging 93 = .ok (.imul, 1) := by decide +kernel
theorem dX8_hanging_94 : decode cX8_hanging 94 = .ok (.iadd, 1) := by decide +kernel
theorem dX8_hanging_95 : decode cX8_hanging 95 = .ok (.iconst 3, 1) := by decide +kernel
theorem dX8_hanging_96 : decode cX8_hanging 96 = .ok (.iadd, 1) := by decide +kernel
theorem dX8_hanging_97 : decode cX8_hanging 97 = .ok (.aload_n 0, 1) := by decide +kernel
theorem dX8_hanging_98 : decode cX8_hanging 98 = .ok (.getfield 44, 3) := by decide +kernel
theorem dX8_hanging_101 : decode cX8_hanging 101 = .ok (.iload 6, 2) := by decide +kernel
theorem dX8_hanging_103 : decode cX8_hanging 103 = .ok (.iaload, 1) := by decide +kernel
theorem dX8_hanging_104 : decode cX8_hanging 104 = .ok (.iastore, 1) := by decide +kernel
theorem dX8_hanging_105 : decode cX8_hanging 105 = .ok (.iinc 6 1, 3) := by decide +kernel
theorem dX8_hanging_108 : decode cX8_hanging 108 = .ok (.goto (-36), 3) := by decide +kernel
theorem dX8_hanging_111 : decode cX8_hanging 111 = .ok (.aload_n 0, 1) := by decide +kernel
theorem dX8_hanging_112 : decode cX8_hanging 112 = .ok (.invokevirtual 197, 3) := by decide +kernel
theorem dX8_hanging_115 : decode cX8_hanging 115 = .ok (.ifCond .eq 121, 3) := by decide +kernel
theorem dX8_hanging_118 : decode cX8_hanging 118 = .ok (.aload_n 0, 1) := by decide +kernel
theorem dX8_hanging_119 : decode cX8_hanging 119 = .ok (.iload_n 1, 1) := by decide +kernel
theorem dX8_hanging_120 : decode cX8_hanging 120 = .ok (.invokevirtual 189, 3) := by decide +kernel
theorem dX8_hanging_123 : decode cX8_hanging 123 = .ok (.aload_n 0, 1) := by decide +kernel
theorem dX8_hanging_124 : decode cX8_hanging 124 = .ok (.getfield 31, 3) := by decide +kernel
theorem dX8_hanging_127 : decode cX8_hanging 127 = .ok (.invokestatic 173, 3) := by decide +kernel
theorem dX8_hanging_130 : decode cX8_hanging 130 = .ok (.invokestatic 131, 3) := by decide +kernel
theorem dX8_hanging_133 : decode cX8_hanging 133 = .ok (.istore 6, 2) := by decide +kernel
theorem dX8_hanging_135 : decode cX8_hanging 135 = .ok (.aload_n 0, 1) := by decide +kernel
theorem dX8_hanging_136 : decode cX8_hanging 136 = .ok (.getfield 31, 3) := by decide +kernel
theorem dX8_hanging_139 : decode cX8_hanging 139 = .ok (.invokestatic 200, 3) := by decide +kernel
theorem dX8_hanging_142 : decode cX8_hanging 142 = .ok (.istore 7, 2) := by decide +kernel
theorem dX8_hanging_144 : decode cX8_hanging 144 = .ok (.iload 6, 2) := by decide +kernel
theorem dX8_hanging_146 : decode cX8_hanging 146 = .ok (.iload_n 3, 1) := by decide +kernel
theorem dX8_hanging_147 : decode cX8_hanging 147 = .ok (.if_icmp .gt 16, 3) := by decide +kernel
theorem dX8_hanging_150 : decode cX8_hanging 150 = .ok (.iload 6, 2) := by decide +kernel
theorem dX8_hanging_152 : decode cX8_hanging 152 = .ok (.iload_n 3, 1) := by decide +kernel
theorem dX8_hanging_153 : decode cX8_hanging 153 = .ok (.if_icmp .ne 14, 3) := by decide +kernel
theorem dX8_hanging_156 : decode cX8_hanging 156 = .ok (.iload 7, 2) := by decide +kernel
theorem dX8_hanging_158 : decode cX8_hanging 158 = .ok (.iload 4, 2) := by decide +kernel
theorem dX8_hanging_160 : decode cX8_hanging 160 = .ok (.if_icmp .le 7, 3) := by decide +kernel
theorem dX8_hanging_163 : decode cX8_hanging 163 = .ok (.iconst 1, 1) := by decide +kernel
theorem dX8_hanging_164 : decode cX8_hanging 164 = .ok (.goto 4, 3) := by decide +kernel
theorem dX8_hanging_167 : decode cX8_hanging 167 = .ok (.iconst 0, 1) := by decide +kernel
theorem dX8_hanging_168 : decode cX8_hanging 168 = .ok (.istore 8, 2) := by decide +kernel
theorem dX8_hanging_170 : decode cX8_hanging 170 = .ok (.iconst 0, 1) := by decide +kernel
theorem dX8_hanging_171 : decode cX8_hanging 171 = .ok (.istore 9, 2) := by decide +kernel
theorem dX8_hanging_173 : decode cX8_hanging 173 = .ok (.iload 9, 2) := by decide +kernel
theorem dX8_hanging_175 : decode cX8_hanging 175 = .ok (.aload_n 0, 1) := by decide +kernel
theorem dX8_hanging_176 : decode cX8_hanging 176 = .ok (.getfield 25, 3) := by decide +kernel
theorem dX8_hanging_179 : decode cX8_hanging 179 = .ok (.bipush 12, 2) := by decide +kernel
theorem dX8_hanging_181 : decode cX8_hanging 181 = .ok (.iaload, 1) := by decide +kernel
theorem dX8_hanging_182 : decode cX8_hanging 182 = .ok (.if_icmp .ge 28, 3) := by decide +kernel
theorem dX8_hanging_185 : decode cX8_hanging 185 = .ok (.iload 8, 2) := by decide +kernel
theorem dX8_hanging_187 : decode cX8_hanging 187 = .ok (.ifCond .eq 23, 3) := by decide +kernel
theorem dX8_hanging_190 : decode cX8_hanging 190 = .ok (.aload_n 0, 1) := by decide +kernel
theorem dX8_hanging_191 : decode cX8_hanging 191 = .ok (.getfield 47, 3) := by decide +kernel
theorem dX8_hanging_194 : decode cX8_hanging 194 = .ok (.iload 9, 2) := by decide +kernel
theorem dX8_hanging_196 : decode cX8_hanging 196 = .ok (.aload_n 0, 1) := by decide +kernel
theorem dX8_hanging_197 : decode cX8_hanging 197 = .ok (.getfield 44, 3) := by decide +kernel
theorem dX8_hanging_200 : decode cX8_hanging 200 = .ok (.iload 9, 2) := by decide +kernel
theorem dX8_hanging_202 : decode cX8_hanging 202 = .ok (.iaload, 1) := by decide +kernel
theorem dX8_hanging_203 : decode cX8_hanging 203 = .ok (.iastore, 1) := by decide +kernel
theorem dX8_hanging_204 : decode cX8_hanging 204 = .ok (.iinc 9 1, 3) := by decide +kernel
theorem dX8_hanging_207 : decode cX8_hanging 207 = .ok (.goto (-34), 3) := by decide +kernel
theorem dX8_hanging_210 : decode cX8_hanging 210 = .ok (.iload 8, 2) := by decide +kernel
theorem dX8_hanging_212 : decode cX8_hanging 212 = .ok (.ifCond .eq 8, 3) := by decide +kernel
theorem dX8_hanging_215 : decode cX8_hanging 215 = .ok (.iload 6, 2) := by decide +kernel
theorem dX8_hanging_217 : decode cX8_hanging 217 = .ok (.goto 4, 3) := by decide +kernel
theorem dX8_hanging_220 : decode cX8_hanging 220 = .ok (.iload_n 3, 1) := by decide +kernel
theorem dX8_hanging_221 : decode cX8_hanging 221 = .ok (.istore_n 3, 1) := by decide +kernel
theorem dX8_hanging_222 : decode cX8_hanging 222 = .ok (.iload 8, 2) := by decide +kernel
theorem dX8_hanging_224 : decode cX8_hanging 224 = .ok (.ifCond .eq 8, 3) := by decide +kernel
theorem dX8_hanging_227 : decode cX8_hanging 227 = .ok (.iload 7, 2) := by decide +kernel
theorem dX8_hanging_229 : decode cX8_hanging 229 = .ok (.goto 5, 3) := by decide +kernel
theorem dX8_hanging_232 : decode cX8_hanging 232 = .ok (.iload 4, 2) := by decide +kernel
theorem dX8_hanging_234 : decode cX8_hanging 234 = .ok (.istore 4, 2) := by decide +kernel
theorem dX8_hanging_236 : decode cX8_hanging 236 = .ok (.aload_n 0, 1) := by decide +kernel
theorem dX8_hanging_237 : decode cX8_hanging 237 = .ok (.invokevirtual 203, 3) := by decide +kernel
theorem dX8_hanging_240 : decode cX8_hanging 240 = .ok (.istore 5, 2) := by decide +kernel
theorem dX8_hanging_242 : decode cX8_hanging 242 = .ok (.goto (-182), 3) := by decide +kernel
theorem dX8_hanging_245 : decode cX8_hanging 245 = .ok (.iload_n 2, 1) := by decide +kernel
theorem dX8_hanging_246 : decode cX8_hanging 246 = .ok (.iconst (-1), 1) := by decide +kernel
theorem dX8_hanging_247 : decode cX8_hanging 247 = .ok (.if_icmp .ne 7, 3) := by decide +kernel
theorem dX8_hanging_250 : decode cX8_hanging 250 = .ok (.iload_n 3, 1) := by decide +kernel
theorem dX8_hanging_251 : decode cX8_hanging 251 = .ok (.goto 33, 3) := by decide +kernel
theorem dX8_hanging_254 : decode cX8_hanging 254 = .ok (.iload_n 2, 1) := by decide +kernel
theorem dX8_hanging_255 : decode cX8_hanging 255 = .ok (.bipush (-2), 2) := by decide +kernel
theorem dX8_hanging_257 : decode cX8_hanging 257 = .ok (.if_icmp .ne 8, 3) := by decide +kernel
theorem dX8_hanging_260 : decode cX8_hanging 260 = .ok (.iload 4, 2) := by decide +kernel
theorem dX8_hanging_262 : decode cX8_hanging 262 = .ok (.goto 22, 3) := by decide +kernel
theorem dX8_hanging_265 : decode cX8_hanging 265 = .ok (.aload_n 0, 1) := by decide +kernel
theorem dX8_hanging_266 : decode cX8_hanging 266 = .ok (.iload_n 2, 1) := by decide +kernel
theorem dX8_hanging_267 : decode cX8_hanging 267 = .ok (.invokevirtual 177, 3) := by decide +kernel
theorem dX8_hanging_270 : decode cX8_hanging 270 = .ok (.ifCond .eq 12, 3) := by decide +kernel
theorem dX8_hanging_273 : decode cX8_hanging 273 = .ok (.aload_n 0, 1) := by decide +kernel
theorem dX8_hanging_274 : decode cX8_hanging 274 = .ok (.getfield 47, 3) := by decide +kernel
theorem dX8_hanging_277 : decode cX8_hanging 277 = .ok (.iload_n 2, 1) := by decide +kernel
theorem dX8_hanging_278 : decode cX8_hanging 278 = .ok (.iaload, 1) := by decide +kernel
theorem dX8_hanging_279 : decode cX8_hanging 279 = .ok (.goto 5, 3) := by decide +kernel
theorem dX8_hanging_282 : decode cX8_hanging 282 = .ok (.ldc 53, 2) := by decide +kernel
theorem dX8_hanging_284 : decode cX8_hanging 284 = .ok (.ireturn, 1) := by decide +kernel
theorem dX8_save_0 : decode cX8_save 0 = .ok (.aload_n 0, 1) := by decide +kernel
theorem dX8_save_1 : decode cX8_save 1 = .ok (.invokevirtual 166, 3) := by decide +kernel
theorem dX8_save_4 : decode cX8_save 4 = .ok (.ifCond .ne 6, 3) := by decide +kernel
theorem dX8_save_7 : decode cX8_save 7 = .ok (.ldc 169, 2) := by decide +kernel
theorem dX8_save_9 : decode cX8_save 9 = .ok (.ireturn, 1) := by decide +kernel
theorem dX8_save_10 : decode cX8_save 10 = .ok (.iload_n 1, 1) := by decide +kernel
theorem dX8_save_11 : decode cX8_save 11 = .ok (.iconst 0, 1) := by decide +kernel
theorem dX8_save_12 : decode cX8_save 12 = .ok (.iconst 1, 1) := by decide +kernel
theorem dX8_save_13 : decode cX8_save 13 = .ok (.aload_n 0, 1) := by decide +kernel
theorem dX8_save_14 : decode cX8_save 14 = .ok (.getfield 25, 3) := by decide +kernel
theorem dX8_save_17 : decode cX8_save 17 = .ok (.bipush 12, 2) := by decide +kernel
theorem dX8_save_19 : decode cX8_save 19 = .ok (.iaload, 1) := by decide +kernel
theorem dX8_save_20 : decode cX8_save 20 = .ok (.ishl, 1) := by decide +kernel
theorem dX8_save_21 : decode cX8_save 21 = .ok (.iconst 1, 1) := by decide +kernel
theorem dX8_save_22 : decode cX8_save 22 = .ok (.isub, 1) := by decide +kernel
theorem dX8_save_23 : decode cX8_save 23 = .ok (.invokestatic 59, 3) := by decide +kernel
theorem dX8_save_26 : decode cX8_save 26 = .ok (.ifCond .eq 10, 3) := by decide +kernel
theorem dX8_save_29 : decode cX8_save 29 = .ok (.iload_n 2, 1) := by decide +kernel
theorem dX8_save_30 : decode cX8_save 30 = .ok (.invokestatic 183, 3) := by decide +kernel
theorem dX8_save_33 : decode cX8_save 33 = .ok (.ifCond .ne 6, 3) := by decide +kernel
theorem dX8_save_36 : decode cX8_save 36 = .ok (.ldc 67, 2) := by decide +kernel
theorem dX8_save_38 : decode cX8_save 38 = .ok (.ireturn, 1) := by decide +kernel
theorem dX8_save_39 : decode cX8_save 39 = .ok (.iconst 0, 1) := by decide +kernel
theorem dX8_save_40 : decode cX8_save 40 = .ok (.istore_n 3, 1) := by decide +kernel
theorem dX8_save_41 : decode cX8_save 41 = .ok (.iconst 1, 1) := by decide +kernel
theorem dX8_save_42 : decode cX8_save 42 = .ok (.istore 4, 2) := by decide +kernel
theorem dX8_save_44 : decode cX8_save 44 = .ok (.iconst 0, 1) := by decide +kernel
theorem dX8_save_45 : decode cX8_save 45 = .ok (.istore 5, 2) := by decide +kernel
theorem dX8_save_47 : decode cX8_save 47 = .ok (.iload 5, 2) := by decide +kernel
theorem dX8_save_49 : decode cX8_save 49 = .ok (.aload_n 0, 1) := by decide +kernel
theorem dX8_save_50 : decode cX8_save 50 = .ok (.getfield 25, 3) := by decide +kernel
theorem dX8_save_53 : decode cX8_save 53 = .ok (.bipush 12, 2) := by decide +kernel
theorem dX8_save_55 : decode cX8_save 55 = .ok (.iaload, 1) := by decide +kernel
theorem dX8_save_56 : decode cX8_save 56 = .ok (.if_icmp .ge 139, 3) := by decide +kernel
theorem dX8_save_59 : decode cX8_save 59 = .ok (.aload_n 0, 1) := by decide +kernel
theorem dX8_save_60 : decode cX8_save 60 = .ok (.invokevirtual 186, 3) := by decide +kernel
theorem dX8_save_63 : decode cX8_save 63 = .ok (.iconst 1, 1) := by decide +kernel
theorem dX8_save_64 : decode cX8_save 64 = .ok (.istore 6, 2) := by decide +kernel
theorem dX8_save_66 : decode cX8_save 66 = .ok (.iconst 0, 1) := by decide +kernel
theorem dX8_save_67 : decode cX8_save 67 = .ok (.istore 7, 2) := by decide +kernel
theorem dX8_save_69 : decode cX8_save 69 = .ok (.iload 7, 2) := by decide +kernel
theorem dX8_save_71 : decode cX8_save 71 = .ok (.iload_n 2, 1) := by decide +kernel
theorem dX8_save_72 : decode cX8_save 72 = .ok (.if_icmp .ge 33, 3) := by decide +kernel
theorem dX8_save_75 : decode cX8_save 75 = .ok (.iload 6, 2) := by decide +kernel
theorem dX8_save_77 : decode cX8_save 77 = .ok (.aload_n 0, 1) := by decide +kernel
theorem dX8_save_78 : decode cX8_save 78 = .ok (.getfield 31, 3) := by decide +kernel
theorem dX8_save_81 : decode cX8_save 81 = .ok (.iload 5, 2) := by decide +kernel
theorem dX8_save_83 : decode cX8_save 83 = .ok (.invokestatic 155, 3) := by decide +kernel
theorem dX8_save_86 : decode cX8_save 86 = .ok (.iadd, 1) := by decide +kernel
theorem dX8_save_87 : decode cX8_save 87 = .ok (.istore 6, 2) := by decide +kernel
theorem dX8_save_89 : decode cX8_save 89 = .ok (.aload_n 0, 1) := by decide +kernel
theorem dX8_save_90 : decode cX8_save 90 = .ok (.getfield 31, 3) := by decide +kernel
theorem dX8_save_93 : decode cX8_save 93 = .ok (.iconst 2, 1) := by decide +kernel
theorem dX8_save_94 : decode cX8_save 94 = .ok (.dup2, 1) := by decide +kernel
theorem dX8_save_95 : decode cX8_save 95 = .ok (.iaload, 1) := by decide +kernel
theorem dX8_save_96 : decode cX8_save 96 = .ok (.iconst 1, 1) := by decide +kernel
theorem dX8_save_97 : decode cX8_save 97 = .ok (.iadd, 1) := by decide +kernel
theorem dX8_save_98 : decode cX8_save 98 = .ok (.iastore, 1) := by decide +kernel
theorem dX8_save_99 : decode cX8_save 99 = .ok (.iinc 7 1, 3) := by decide +kernel
theorem dX8_save_102 : decode cX8_save 102 = .ok (.goto (-33), 3) := by decide +kernel
theorem dX8_save_105 : decode cX8_save 105 = .ok (.aload_n 0, 1) := by decide +kernel
theorem dX8_save_106 : decode cX8_save 106 = .ok (.getfield 25, 3) := by decide +kernel
theorem dX8_save_109 : decode cX8_save 109 = .ok (.bipush 13, 2) := by decide +kernel
theorem dX8_save_111 : decode cX8_save 111 = .ok (.iconst 4, 1) := by decide +kernel
theorem dX8_save_112 : decode cX8_save 112 = .ok (.iload 5, 2) := by decide +kernel
theorem dX8_save_114 : decode cX8_save 114 = .ok (.imul, 1) := by decide +kernel
theorem dX8_save_115 : decode cX8_save 115 = .ok (.iadd, 1) := by decide +kernel
theorem dX8_save_116 : decode cX8_save 116 = .ok (.iconst 2, 1) := by decide +kernel
theorem dX8_save_117 : decode cX8_save 117 = .ok (.iadd, 1) := by decide +kernel
theorem dX8_save_118 : decode cX8_save 118 = .ok (.iaload, 1) := by decide +kernel
theorem dX8_save_119 : decode cX8_save 119 = .ok (.istore 7, 2) := by decide +kernel
theorem dX8_save_121 : decode cX8_save 121 = .ok (.iload 4, 2) := by decide +kernel
theorem dX8_save_123 : decode cX8_save 123 = .ok (.ifCond .eq 35, 3) := by decide +kernel
theorem dX8_save_126 : decode cX8_save 126 = .ok (.iload_n 1, 1) := by decide +kernel
theorem dX8_save_127 : decode cX8_save 127 = .ok (.iload 5, 2) := by decide +kernel
theorem dX8_save_129 : decode cX8_save 129 = .ok (.invokestatic 193, 3) := by decide +kernel
theorem dX8_save_132 : decode cX8_save 132 = .ok (.ifCond .eq 22, 3) := by decide +kernel
theorem dX8_save_135 : decode cX8_save 135 = .ok (.iload 7, 2) := by decide +kernel
theorem dX8_save_137 : decode cX8_save 137 = .ok (.ifCond .le 21, 3) := by decide +kernel
theorem dX8_save_140 : decode cX8_save 140 = .ok (.iload 6, 2) := by decide +kernel
theorem dX8_save_142 : decode cX8_save 142 = .ok (.bipush 60, 2) := by decide +kernel
theorem dX8_save_144 : decode cX8_save 144 = .ok (.if_icmp .le 10, 3) := by decide +kernel
theorem dX8_save_147 : decode cX8_save 147 = .ok (.iload 6, 2) := by decide +kernel
theorem dX8_save_149 : decode cX8_save 149 = .ok (.iload 7, 2) := by decide +kernel
theorem dX8_save_151 : decode cX8_save 151 = .ok (.if_icmp .gt 7, 3) := by decide +kernel
theorem dX8_save_154 : decode cX8_save 154 = .ok (.iconst 1, 1) := by decide +kernel
theorem dX8_save_155 : decode cX8_save 155 = .ok (.goto 4, 3) := by decide +kernel
theorem dX8_save_158 : decode cX8_save 158 = .ok (.iconst 0, 1) := by decide +kernel
theorem dX8_save_159 : decode cX8_save 159 = .ok (.istore 4, 2) := by decide +kernel
theorem dX8_save_161 : decode cX8_save 161 = .ok (.iload_n 3, 1) := by decide +kernel
theorem dX8_save_162 : decode cX8_save 162 = .ok (.iload_n 1, 1) := by decide +kernel
theorem dX8_save_163 : decode cX8_save 163 = .ok (.iload 5, 2) := by decide +kernel
theorem dX8_save_165 : decode cX8_save 165 = .ok (.invokestatic 193, 3) := by decide +kernel
theorem dX8_save_168 : decode cX8_save 168 = .ok (.ifCond .eq 18, 3) := by decide +kernel
theorem dX8_save_171 : decode cX8_save 171 = .ok (.iload 6, 2) := by decide +kernel
theorem dX8_save_173 : decode cX8_save 173 = .ok (.iload 7, 2) := by decide +kernel
theorem dX8_save_175 : decode cX8_save 175 = .ok (.if_icmp .le 11, 3) := by decide +kernel
theorem dX8_save_178 : decode cX8_save 178 = .ok (.iload 6, 2) := by decide +kernel
theorem dX8_save_180 : decode cX8_save 180 = .ok (.iload 7, 2) := by decide +kernel
theorem dX8_save_182 : decode cX8_save 182 = .ok (.isub, 1) := by decide +kernel
theorem dX8_save_183 : decode cX8_save 183 = .ok (.goto 4, 3) := by decide +kernel
theorem dX8_save_186 : decode cX8_save 186 = .ok (.iconst 0, 1) := by decide +kernel
theorem dX8_save_187 : decode cX8_save 187 = .ok (.iadd, 1) := by decide +kernel
theorem dX8_save_188 : decode cX8_save 188 = .ok (.istore_n 3, 1) := by decide +kernel
theorem dX8_save_189 : decode cX8_save 189 = .ok (.iinc 5 1, 3) := by decide +kernel
theorem dX8_save_192 : decode cX8_save 192 = .ok (.goto (-145), 3) := by decide +kernel
theorem dX8_save_195 : decode cX8_save 195 = .ok (.iload 4, 2) := by decide +kernel
theorem dX8_save_197 : decode cX8_save 197 = .ok (.ifCond .eq 17, 3) := by decide +kernel
theorem dX8_save_200 : decode cX8_save 200 = .ok (.iload_n 3, 1) := by decide +kernel
theorem dX8_save_201 : decode cX8_save 201 = .ok (.aload_n 0, 1) := by decide +kernel
theorem dX8_save_202 : decode cX8_save 202 = .ok (.getfield 25, 3) := by decide +kernel
theorem dX8_save_205 : decode cX8_save 205 = .ok (.iconst 1, 1) := by decide +kernel
theorem dX8_save_206 : decode cX8_save 206 = .ok (.iaload, 1) := by decide +kernel
theorem dX8_save_207 : decode cX8_save 207 = .ok (.if_icmp .gt 7, 3) := by decide +kernel
theorem dX8_save_210 : decode cX8_save 210 = .ok (.iload_n 3, 1) := by decide +kernel
theorem dX8_save_211 : decode cX8_save 211 = .ok (.goto 5, 3) := by decide +kernel
theorem dX8_save_214 : decode cX8_save 214 = .ok (.ldc 53, 2) := by decide +kernel
theorem dX8_save_216 : decode cX8_save 216 = .ok (.ireturn, 1) := by decide +kernel
theorem dX8_dark_0 : decode cX8_dark 0 = .ok (.aload_n 0, 1) := by decide +kernel
theorem dX8_dark_1 : decode cX8_dark 1 = .ok (.invokevirtual 166, 3) := by decide +kernel
theorem dX8_dark_4 : decode cX8_dark 4 = .ok (.ifCond .ne 6, 3) := by decide +kernel
theorem dX8_dark_7 : decode cX8_dark 7 = .ok (.ldc 169, 2) := by decide +kernel
theorem dX8_dark_9 : decode cX8_dark 9 = .ok (.ireturn, 1) := by decide +kernel
theorem dX8_dark_10 : decode cX8_dark 10 = .ok (.iload_n 1, 1) := by decide +kernel
theorem dX8_dark_11 : decode cX8_dark 11 = .ok (.invokestatic 183, 3) := by decide +kernel
theorem dX8_dark_14 : decode cX8_dark 14 = .ok (.ifCond .eq 12, 3) := by decide +kernel
theorem dX8_dark_17 : decode cX8_dark 17 = .ok (.iload_n 2, 1) := by decide +kernel
theorem dX8_dark_18 : decode cX8_dark 18 = .ok (.iconst 0, 1) := by decide +kernel
theorem dX8_dark_19 : decode cX8_dark 19 = .ok (.iconst 1, 1) := by decide +kernel
theorem dX8_dark_20 : decode cX8_dark 20 = .ok (.invokestatic 59, 3) := by decide +kernel
theorem dX8_dark_23 : decode cX8_dark 23 = .ok (.ifCond .ne 6, 3) := by decide +kernel
theorem dX8_dark_26 : decode cX8_dark 26 = .ok (.ldc 67, 2) := by decide +kernel
theorem dX8_dark_28 : decode cX8_dark 28 = .ok (.ireturn, 1) := by decide +kernel
theorem dX8_dark_29 : decode cX8_dark 29 = .ok (.iconst 0, 1) := by decide +kernel
theorem dX8_dark_30 : decode cX8_dark 30 = .ok (.istore_n 3, 1) := by decide +kernel
theorem dX8_dark_31 : decode cX8_dark 31 = .ok (.ldc 53, 2) := by decide +kernel
theorem dX8_dark_33 : decode cX8_dark 33 = .ok (.istore 4, 2) := by decide +kernel
theorem dX8_dark_35 : decode cX8_dark 35 = .ok (.iconst 0, 1) := by decide +kernel
theorem dX8_dark_36 : decode cX8_dark 36 = .ok (.istore 5, 2) := by decide +kernel
theorem dX8_dark_38 : decode cX8_dark 38 = .ok (.iload 5, 2) := by decide +kernel
theorem dX8_dark_40 : decode cX8_dark 40 = .ok (.aload_n 0, 1) := by decide +kernel
theorem dX8_dark_41 : decode cX8_dark 41 = .ok (.getfield 25, 3) := by decide +kernel
theorem dX8_dark_44 : decode cX8_dark 44 = .ok (.iconst 3, 1) := by decide +kernel
theorem dX8_dark_45 : decode cX8_dark 45 = .ok (.iaload, 1) := by decide +kernel
theorem dX8_dark_46 : decode cX8_dark 46 = .ok (.if_icmp .ge 72, 3) := by decide +kernel
theorem dX8_dark_49 : decode cX8_dark 49 = .ok (.aload_n 0, 1) := by decide +kernel
theorem dX8_dark_50 : decode cX8_dark 50 = .ok (.invokevirtual 186, 3) := by decide +kernel
theorem dX8_dark_53 : decode cX8_dark 53 = .ok (.aload_n 0, 1) := by decide +kernel
theorem dX8_dark_54 : decode cX8_dark 54 = .ok (.getfield 31, 3) := by decide +kernel
theorem dX8_dark_57 : decode cX8_dark 57 = .ok (.iconst 4, 1) := by decide +kernel
theorem dX8_dark_58 : decode cX8_dark 58 = .ok (.iconst 2, 1) := by decide +kernel
theorem dX8_dark_59 : decode cX8_dark 59 = .ok (.iload 5, 2) := by decide +kernel
theorem dX8_dark_61 : decode cX8_dark 61 = .ok (.imul, 1) := by decide +kernel
theorem dX8_dark_62 : decode cX8_dark 62 = .ok (.iadd, 1) := by decide +kernel
theorem dX8_dark_63 : decode cX8_dark 63 = .ok (.iconst 0, 1) := by decide +kernel
theorem dX8_dark_64 : decode cX8_dark 64 = .ok (.iastore, 1) := by decide +kernel
theorem dX8_dark_65 : decode cX8_dark 65 = .ok (.aload_n 0, 1) := by decide +kernel
theorem dX8_dark_66 : decode cX8_dark 66 = .ok (.iload_n 1, 1) := by decide +kernel
theorem dX8_dark_67 : decode cX8_dark 67 = .ok (.invokevirtual 189, 3) := by decide +kernel
theorem dX8_dark_70 : decode cX8_dark 70 = .ok (.aload_n 0, 1) := by decide +kernel
theorem dX8_dark_71 : decode cX8_dark 71 = .ok (.getfield 31, 3) := by decide +kernel
theorem dX8_dark_74 : decode cX8_dark 74 = .ok (.invokestatic 173, 3) := by decide +kernel
theorem dX8_dark_77 : decode cX8_dark 77 = .ok (.invokestatic 131, 3) := by decide +kernel
theorem dX8_dark_80 : decode cX8_dark 80 = .ok (.istore 6, 2) := by decide +kernel
theorem dX8_dark_82 : decode cX8_dark 82 = .ok (.iload 6, 2) := by decide +kernel
theorem dX8_dark_84 : decode cX8_dark 84 = .ok (.iload 4, 2) := by decide +kernel
theorem dX8_dark_86 : decode cX8_dark 86 = .ok (.if_icmp .le 8, 3) := by decide +kernel
theorem dX8_dark_89 : decode cX8_dark 89 = .ok (.iload 5, 2) := by decide +kernel
theorem dX8_dark_91 : decode cX8_dark 91 = .ok (.goto 4, 3) := by decide +kernel
theorem dX8_dark_94 : decode cX8_dark 94 = .ok (.iload_n 3, 1) := by decide +kernel
theorem dX8_dark_95 : decode cX8_dark 95 = .ok (.istore_n 3, 1) := by decide +kernel
theorem dX8_dark_96 : decode cX8_dark 96 = .ok (.iload 6, 2) := by decide +kernel
theorem dX8_dark_98 : decode cX8_dark 98 = .ok (.iload 4, 2) := by decide +kernel
theorem dX8_dark_100 : decode cX8_dark 100 = .ok (.if_icmp .le 8, 3) := by decide +kernel
theorem dX8_dark_103 : decode cX8_dark 103 = .ok (.iload 6, 2) := by decide +kernel
theorem dX8_dark_105 : decode cX8_dark 105 = .ok (.goto 5, 3) := by decide +kernel
theorem dX8_dark_108 : decode cX8_dark 108 = .ok (.iload 4, 2) := by decide +kernel
theorem dX8_dark_110 : decode cX8_dark 110 = .ok (.istore 4, 2) := by decide +kernel
theorem dX8_dark_112 : decode cX8_dark 112 = .ok (.iinc 5 1, 3) := by decide +kernel
theorem dX8_dark_115 : decode cX8_dark 115 = .ok (.goto (-77), 3) := by decide +kernel
theorem dX8_dark_118 : decode cX8_dark 118 = .ok (.iload_n 2, 1) := by decide +kernel
theorem dX8_dark_119 : decode cX8_dark 119 = .ok (.ifCond .ne 7, 3) := by decide +kernel
theorem dX8_dark_122 : decode cX8_dark 122 = .ok (.iload_n 3, 1) := by decide +kernel
theorem dX8_dark_123 : decode cX8_dark 123 = .ok (.goto 5, 3) := by decide +kernel
theorem dX8_dark_126 : decode cX8_dark 126 = .ok (.iload 4, 2) := by decide +kernel
theorem dX8_dark_128 : decode cX8_dark 128 = .ok (.ireturn, 1) := by decide +kernel
theorem dX8_goesSo_0 : decode cX8_goesSo 0 = .ok (.iconst 1, 1) := by decide +kernel
theorem dX8_goesSo_1 : decode cX8_goesSo 1 = .ok (.istore 4, 2) := by decide +kernel
theorem dX8_goesSo_3 : decode cX8_goesSo 3 = .ok (.iconst 0, 1) := by decide +kernel
theorem dX8_goesSo_4 : decode cX8_goesSo 4 = .ok (.istore 5, 2) := by decide +kernel
theorem dX8_goesSo_6 : decode cX8_goesSo 6 = .ok (.iload 5, 2) := by decide +kernel
theorem dX8_goesSo_8 : decode cX8_goesSo 8 = .ok (.iload_n 3, 1) := by decide +kernel
theorem dX8_goesSo_9 : decode cX8_goesSo 9 = .ok (.if_icmp .ge 53, 3) := by decide +kernel
theorem dX8_goesSo_12 : decode cX8_goesSo 12 = .ok (.aload_n 0, 1) := by decide +kernel
theorem dX8_goesSo_13 : decode cX8_goesSo 13 = .ok (.getfield 31, 3) := by decide +kernel
theorem dX8_goesSo_16 : decode cX8_goesSo 16 = .ok (.invokestatic 162, 3) := by decide +kernel
theorem dX8_goesSo_19 : decode cX8_goesSo 19 = .ok (.iload 4, 2) := by decide +kernel
theorem dX8_goesSo_21 : decode cX8_goesSo 21 = .ok (.ifCond .eq 32, 3) := by decide +kernel
theorem dX8_goesSo_24 : decode cX8_goesSo 24 = .ok (.aload_n 0, 1) := by decide +kernel
theorem dX8_goesSo_25 : decode cX8_goesSo 25 = .ok (.getfield 31, 3) := by decide +kernel
theorem dX8_goesSo_28 : decode cX8_goesSo 28 = .ok (.bipush 13, 2) := by decide +kernel
theorem dX8_goesSo_30 : decode cX8_goesSo 30 = .ok (.iconst 4, 1) := by decide +kernel
theorem dX8_goesSo_31 : decode cX8_goesSo 31 = .ok (.iload_n 1, 1) := by decide +kernel
theorem dX8_goesSo_32 : decode cX8_goesSo 32 = .ok (.imul, 1) := by decide +kernel
theorem dX8_goesSo_33 : decode cX8_goesSo 33 = .ok (.iadd, 1) := by decide +kernel
theorem dX8_goesSo_34 : decode cX8_goesSo 34 = .ok (.iconst 2, 1) := by decide +kernel
theorem dX8_goesSo_35 : decode cX8_goesSo 35 = .ok (.iadd, 1) := by decide +kernel
theorem dX8_goesSo_36 : decode cX8_goesSo 36 = .ok (.iaload, 1) := by decide +kernel
theorem dX8_goesSo_37 : decode cX8_goesSo 37 = .ok (.aload_n 0, 1) := by decide +kernel
theorem dX8_goesSo_38 : decode cX8_goesSo 38 = .ok (.getfield 16, 3) := by decide +kernel
theorem dX8_goesSo_41 : decode cX8_goesSo 41 = .ok (.iload_n 2, 1) := by decide +kernel
theorem dX8_goesSo_42 : decode cX8_goesSo 42 = .ok (.iload 5, 2) := by decide +kernel
theorem dX8_goesSo_44 : decode cX8_goesSo 44 = .ok (.iadd, 1) := by decide +kernel
theorem dX8_goesSo_45 : decode cX8_goesSo 45 = .ok (.iaload, 1) := by decide +kernel
theorem dX8_goesSo_46 : decode cX8_goesSo 46 = .ok (.if_icmp .ne 7, 3) := by decide +kernel
theorem dX8_goesSo_49 : decode cX8_goesSo 49 = .ok (.iconst 1, 1) := by decide +kernel
theorem dX8_goesSo_50 : decode cX8_goesSo 50 = .ok (.goto 4, 3) := by decide +kernel
theorem dX8_goesSo_53 : decode cX8_goesSo 53 = .ok (.iconst 0, 1) := by decide +kernel
theorem dX8_goesSo_54 : decode cX8_goesSo 54 = .ok (.istore 4, 2) := by decide +kernel
theorem dX8_goesSo_56 : decode cX8_goesSo 56 = .ok (.iinc 5 1, 3) := by decide +kernel
theorem dX8_goesSo_59 : decode cX8_goesSo 59 = .ok (.goto (-53), 3) := by decide +kernel
theorem dX8_goesSo_62 : decode cX8_goesSo 62 = .ok (.iload 4, 2) := by decide +kernel
theorem dX8_goesSo_64 : decode cX8_goesSo 64 = .ok (.ireturn, 1) := by decide +kernel
theorem dX8_fits_0 : decode cX8_fits 0 = .ok (.aload_n 0, 1) := by decide +kernel
theorem dX8_fits_1 : decode cX8_fits 1 = .ok (.iload_n 1, 1) := by decide +kernel
theorem dX8_fits_2 : decode cX8_fits 2 = .ok (.invokevirtual 177, 3) := by decide +kernel
theorem dX8_fits_5 : decode cX8_fits 5 = .ok (.ifCond .eq 31, 3) := by decide +kernel
theorem dX8_fits_8 : decode cX8_fits 8 = .ok (.iload_n 2, 1) := by decide +kernel
theorem dX8_fits_9 : decode cX8_fits 9 = .ok (.invokestatic 63, 3) := by decide +kernel
theorem dX8_fits_12 : decode cX8_fits 12 = .ok (.ifCond .eq 24, 3) := by decide +kernel
theorem dX8_fits_15 : decode cX8_fits 15 = .ok (.iload 4, 2) := by decide +kernel
theorem dX8_fits_17 : decode cX8_fits 17 = .ok (.iconst 1, 1) := by decide +kernel
theorem dX8_fits_18 : decode cX8_fits 18 = .ok (.bipush 16, 2) := by decide +kernel
theorem dX8_fits_20 : decode cX8_fits 20 = .ok (.invokestatic 59, 3) := by decide +kernel
theorem dX8_fits_23 : decode cX8_fits 23 = .ok (.ifCond .eq 13, 3) := by decide +kernel
theorem dX8_fits_26 : decode cX8_fits 26 = .ok (.iload 5, 2) := by decide +kernel
theorem dX8_fits_28 : decode cX8_fits 28 = .ok (.iconst 0, 1) := by decide +kernel
theorem dX8_fits_29 : decode cX8_fits 29 = .ok (.iconst 3, 1) := by decide +kernel
theorem dX8_fits_30 : decode cX8_fits 30 = .ok (.invokestatic 59, 3) := by decide +kernel
theorem dX8_fits_33 : decode cX8_fits 33 = .ok (.ifCond .ne 6, 3) := by decide +kernel
theorem dX8_fits_36 : decode cX8_fits 36 = .ok (.ldc 67, 2) := by decide +kernel
theorem dX8_fits_38 : decode cX8_fits 38 = .ok (.ireturn, 1) := by decide +kernel
theorem dX8_fits_39 : decode cX8_fits 39 = .ok (.aload_n 0, 1) := by decide +kernel
theorem dX8_fits_40 : decode cX8_fits 40 = .ok (.iload_n 2, 1) := by decide +kernel
theorem dX8_fits_41 : decode cX8_fits 41 = .ok (.invokevirtual 75, 3) := by decide +kernel
theorem dX8_fits_44 : decode cX8_fits 44 = .ok (.ifCond .eq 9, 3) := by decide +kernel
theorem dX8_fits_47 : decode cX8_fits 47 = .ok (.aload_n 0, 1) := by decide +kernel
theorem dX8_fits_48 : decode cX8_fits 48 = .ok (.iconst 1, 1) := by decide +kernel
theorem dX8_fits_49 : decode cX8_fits 49 = .ok (.invokevirtual 68, 3) := by decide +kernel
theorem dX8_fits_52 : decode cX8_fits 52 = .ok (.ireturn, 1) := by decide +kernel
theorem dX8_fits_53 : decode cX8_fits 53 = .ok (.aload_n 0, 1) := by decide +kernel
theorem dX8_fits_54 : decode cX8_fits 54 = .ok (.iload_n 2, 1) := by decide +kernel
theorem dX8_fits_55 : decode cX8_fits 55 = .ok (.iload_n 3, 1) := by decide +kernel
theorem dX8_fits_56 : decode cX8_fits 56 = .ok (.iload 4, 2) := by decide +kernel
theorem dX8_fits_58 : decode cX8_fits 58 = .ok (.invokevirtual 82, 3) := by decide +kernel
theorem dX8_fits_61 : decode cX8_fits 61 = .ok (.ifCond .ne 9, 3) := by decide +kernel
theorem dX8_fits_64 : decode cX8_fits 64 = .ok (.aload_n 0, 1) := by decide +kernel
theorem dX8_fits_65 : decode cX8_fits 65 = .ok (.iconst 2, 1) := by decide +kernel
theorem dX8_fits_66 : decode cX8_fits 66 = .ok (.invokevirtual 68, 3) := by decide +kernel
theorem dX8_fits_69 : decode cX8_fits 69 = .ok (.ireturn, 1) := by decide +kernel
theorem dX8_fits_70 : decode cX8_fits 70 = .ok (.iload 5, 2) := by decide +kernel
theorem dX8_fits_72 : decode cX8_fits 72 = .ok (.iconst 2, 1) := by decide +kernel
theorem dX8_fits_73 : decode cX8_fits 73 = .ok (.if_icmp .ge 7, 3) := by decide +kernel
theorem dX8_fits_76 : decode cX8_fits 76 = .ok (.iconst 1, 1) := by decide +kernel
theorem dX8_fits_77 : decode cX8_fits 77 = .ok (.goto 4, 3) := by decide +kernel
theorem dX8_fits_80 : decode cX8_fits 80 = .ok (.iconst 0, 1) := by decide +kernel
theorem dX8_fits_81 : decode cX8_fits 81 = .ok (.istore 6, 2) := by decide +kernel
theorem dX8_fits_83 : decode cX8_fits 83 = .ok (.iload 5, 2) := by decide +kernel
theorem dX8_fits_85 : decode cX8_fits 85 = .ok (.ifCond .ne 7, 3) := by decide +kernel
theorem dX8_fits_88 : decode cX8_fits 88 = .ok (.iconst 5, 1) := by decide +kernel
theorem dX8_fits_89 : decode cX8_fits 89 = .ok (.goto 33, 3) := by decide +kernel
theorem dX8_fits_92 : decode cX8_fits 92 = .ok (.iload 5, 2) := by decide +kernel
theorem dX8_fits_94 : decode cX8_fits 94 = .ok (.iconst 1, 1) := by decide +kernel
theorem dX8_fits_95 : decode cX8_fits 95 = .ok (.if_icmp .ne 8, 3) := by decide +kernel
theorem dX8_fits_98 : decode cX8_fits 98 = .ok (.bipush 9, 2) := by decide +kernel
theorem dX8_fits_100 : decode cX8_fits 100 = .ok (.goto 22, 3) := by decide +kernel
theorem dX8_fits_103 : decode cX8_fits 103 = .ok (.iload 5, 2) := by decide +kernel
theorem dX8_fits_105 : decode cX8_fits 105 = .ok (.iconst 2, 1) := by decide +kernel
theorem dX8_fits_106 : decode cX8_fits 106 = .ok (.if_icmp .ne 14, 3) := by decide +kernel
theorem dX8_fits_109 : decode cX8_fits 109 = .ok (.aload_n 0, 1) := by decide +kernel
theorem dX8_fits_110 : decode cX8_fits 110 = .ok (.getfield 25, 3) := by decide +kernel
theorem dX8_fits_113 : decode cX8_fits 113 = .ok (.iconst 3, 1) := by decide +kernel
theorem dX8_fits_114 : decode cX8_fits 114 = .ok (.iaload, 1) := by decide +kernel
theorem dX8_fits_115 : decode cX8_fits 115 = .ok (.iconst 1, 1) := by decide +kernel
theorem dX8_fits_116 : decode cX8_fits 116 = .ok (.isub, 1) := by decide +kernel
theorem dX8_fits_117 : decode cX8_fits 117 = .ok (.goto 5, 3) := by decide +kernel
theorem dX8_fits_120 : decode cX8_fits 120 = .ok (.bipush 29, 2) := by decide +kernel
theorem dX8_fits_122 : decode cX8_fits 122 = .ok (.istore 7, 2) := by decide +kernel
theorem dX8_fits_124 : decode cX8_fits 124 = .ok (.bipush 13, 2) := by decide +kernel
theorem dX8_fits_126 : decode cX8_fits 126 = .ok (.iconst 4, 1) := by decide +kernel
theorem dX8_fits_127 : decode cX8_fits 127 = .ok (.iload_n 1, 1) := by decide +kernel
theorem dX8_fits_128 : decode cX8_fits 128 = .ok (.imul, 1) := by decide +kernel
theorem dX8_fits_129 : decode cX8_fits 129 = .ok (.iadd, 1) := by decide +kernel
theorem dX8_fits_130 : decode cX8_fits 130 = .ok (.iload 5, 2) := by decide +kernel
theorem dX8_fits_132 : decode cX8_fits 132 = .ok (.ifCond .ne 7, 3) := by decide +kernel
theorem dX8_fits_135 : decode cX8_fits 135 = .ok (.iconst 0, 1) := by decide +kernel
theorem dX8_fits_136 : decode cX8_fits 136 = .ok (.goto 14, 3) := by decide +kernel
theorem dX8_fits_139 : decode cX8_fits 139 = .ok (.iload 5, 2) := by decide +kernel
theorem dX8_fits_141 : decode cX8_fits 141 = .ok (.iconst 1, 1) := by decide +kernel
theorem dX8_fits_142 : decode cX8_fits 142 = .ok (.if_icmp .ne 7, 3) := by decide +kernel
theorem dX8_fits_145 : decode cX8_fits 145 = .ok (.iconst 1, 1) := by decide +kernel
theorem dX8_fits_146 : decode cX8_fits 146 = .ok (.goto 4, 3) := by decide +kernel
theorem dX8_fits_149 : decode cX8_fits 149 = .ok (.iconst 3, 1) := by decide +kernel
theorem dX8_fits_150 : decode cX8_fits 150 = .ok (.iadd, 1) := by decide +kernel
theorem dX8_fits_151 : decode cX8_fits 151 = .ok (.istore 8, 2) := by decide +kernel
theorem dX8_fits_153 : decode cX8_fits 153 = .ok (.iconst 0, 1) := by decide +kernel
theorem dX8_fits_154 : decode cX8_fits 154 = .ok (.istore 9, 2) := by decide +kernel
theorem dX8_fits_156 : decode cX8_fits 156 = .ok (.iload 6, 2) := by decide +kernel
theorem dX8_fits_158 : decode cX8_fits 158 = .ok (.istore 10, 2) := by decide +kernel
theorem dX8_fits_160 : decode cX8_fits 160 = .ok (.iload 10, 2) := by decide +kernel
theorem dX8_fits_162 : decode cX8_fits 162 = .ok (.iload 7, 2) := by decide +kernel
theorem dX8_fits_164 : decode cX8_fits 164 = .ok (.if_icmp .gt 70, 3) := by decide +kernel
theorem dX8_fits_167 : decode cX8_fits 167 = .ok (.aload_n 0, 1) := by decide +kernel
theorem dX8_fits_168 : decode cX8_fits 168 = .ok (.invokevirtual 186, 3) := by decide +kernel
theorem dX8_fits_171 : decode cX8_fits 171 = .ok (.iload 5, 2) := by decide +kernel
theorem dX8_fits_173 : decode cX8_fits 173 = .ok (.iconst 3, 1) := by decide +kernel
theorem dX8_fits_174 : decode cX8_fits 174 = .ok (.if_icmp .ne 16, 3) := by decide +kernel
theorem dX8_fits_177 : decode cX8_fits 177 = .ok (.aload_n 0, 1) := by decide +kernel
theorem dX8_fits_178 : decode cX8_fits 178 = .ok (.getfield 31, 3) := by decide +kernel
theorem dX8_fits_181 : decode cX8_fits 181 = .ok (.iload_n 1, 1) := by decide +kernel
theorem dX8_fits_182 : decode cX8_fits 182 = .ok (.iload 10, 2) := by decide +kernel
theorem dX8_fits_184 : decode cX8_fits 184 = .ok (.invokestatic 158, 3) := by decide +kernel
theorem dX8_fits_187 : decode cX8_fits 187 = .ok (.goto 12, 3) := by decide +kernel
theorem dX8_fits_190 : decode cX8_fits 190 = .ok (.aload_n 0, 1) := by decide +kernel
theorem dX8_fits_191 : decode cX8_fits 191 = .ok (.getfield 31, 3) := by decide +kernel
theorem dX8_fits_194 : decode cX8_fits 194 = .ok (.iload 8, 2) := by decide +kernel
theorem dX8_fits_196 : decode cX8_fits 196 = .ok (.iload 10, 2) := by decide +kernel
theorem dX8_fits_198 : decode cX8_fits 198 = .ok (.iastore, 1) := by decide +kernel
theorem dX8_fits_199 : decode cX8_fits 199 = .ok (.iload 9, 2) := by decide +kernel
theorem dX8_fits_201 : decode cX8_fits 201 = .ok (.aload_n 0, 1) := by decide +kernel
theorem dX8_fits_202 : decode cX8_fits 202 = .ok (.iload_n 1, 1) := by decide +kernel
theorem dX8_fits_203 : decode cX8_fits 203 = .ok (.bipush 40, 2) := by decide +kernel
theorem dX8_fits_205 : decode cX8_fits 205 = .ok (.iload_n 2, 1) := by decide +kernel
theorem dX8_fits_206 : decode cX8_fits 206 = .ok (.imul, 1) := by decide +kernel
theorem dX8_fits_207 : decode cX8_fits 207 = .ok (.iload_n 3, 1) := by decide +kernel
theorem dX8_fits_208 : decode cX8_fits 208 = .ok (.iadd, 1) := by decide +kernel
theorem dX8_fits_209 : decode cX8_fits 209 = .ok (.iload 4, 2) := by decide +kernel
theorem dX8_fits_211 : decode cX8_fits 211 = .ok (.invokevirtual 206, 3) := by decide +kernel
theorem dX8_fits_214 : decode cX8_fits 214 = .ok (.ifCond .eq 10, 3) := by decide +kernel
theorem dX8_fits_217 : decode cX8_fits 217 = .ok (.iconst 1, 1) := by decide +kernel
theorem dX8_fits_218 : decode cX8_fits 218 = .ok (.iload 10, 2) := by decide +kernel
theorem dX8_fits_220 : decode cX8_fits 220 = .ok (.ishl, 1) := by decide +kernel
theorem dX8_fits_221 : decode cX8_fits 221 = .ok (.goto 4, 3) := by decide +kernel
theorem dX8_fits_224 : decode cX8_fits 224 = .ok (.iconst 0, 1) := by decide +kernel
theorem dX8_fits_225 : decode cX8_fits 225 = .ok (.ior, 1) := by decide +kernel
theorem dX8_fits_226 : decode cX8_fits 226 = .ok (.istore 9, 2) := by decide +kernel
theorem dX8_fits_228 : decode cX8_fits 228 = .ok (.iinc 10 1, 3) := by decide +kernel
theorem dX8_fits_231 : decode cX8_fits 231 = .ok (.goto (-71), 3) := by decide +kernel
theorem dX8_fits_234 : decode cX8_fits 234 = .ok (.aload_n 0, 1) := by decide +kernel
theorem dX8_fits_235 : decode cX8_fits 235 = .ok (.iload 9, 2) := by decide +kernel
theorem dX8_fits_237 : decode cX8_fits 237 = .ok (.invokevirtual 72, 3) := by decide +kernel
theorem dX8_fits_240 : decode cX8_fits 240 = .ok (.ireturn, 1) := by decide +kernel
theorem dX8_thieves_0 : decode cX8_thieves 0 = .ok (.aload_n 0, 1) := by decide +kernel
theorem dX8_thieves_1 : decode cX8_thieves 1 = .ok (.invokevirtual 166, 3) := by decide +kernel
theorem dX8_thieves_4 : decode cX8_thieves 4 = .ok (.ifCond .ne 6, 3) := by decide +kernel
theorem dX8_thieves_7 : decode cX8_thieves 7 = .ok (.ldc 169, 2) := by decide +kernel
theorem dX8_thieves_9 : decode cX8_thieves 9 = .ok (.ireturn, 1) := by decide +kernel
theorem dX8_thieves_10 : decode cX8_thieves 10 = .ok (.iload_n 1, 1) := by decide +kernel
theorem dX8_thieves_11 : decode cX8_thieves 11 = .ok (.iconst 0, 1) := by decide +kernel
theorem dX8_thieves_12 : decode cX8_thieves 12 = .ok (.iconst 5, 1) := by decide +kernel
theorem dX8_thieves_13 : decode cX8_thieves 13 = .ok (.invokestatic 59, 3) := by decide +kernel
theorem dX8_thieves_16 : decode cX8_thieves 16 = .ok (.ifCond .eq 30, 3) := by decide +kernel
theorem dX8_thieves_19 : decode cX8_thieves 19 = .ok (.iload_n 2, 1) := by decide +kernel
theorem dX8_thieves_20 : decode cX8_thieves 20 = .ok (.invokestatic 183, 3) := by decide +kernel
theorem dX8_thieves_23 : decode cX8_thieves 23 = .ok (.ifCond .eq 23, 3) := by decide +kernel
theorem dX8_thieves_26 : decode cX8_thieves 26 = .ok (.iload_n 3, 1) := by decide +kernel
theorem dX8_thieves_27 : decode cX8_thieves 27 = .ok (.iconst 0, 1) := by decide +kernel
theorem dX8_thieves_28 : decode cX8_thieves 28 = .ok (.bipush 10, 2) := by decide +kernel
theorem dX8_thieves_30 : decode cX8_thieves 30 = .ok (.invokestatic 59, 3) := by decide +kernel
theorem dX8_thieves_33 : decode cX8_thieves 33 = .ok (.ifCond .eq 13, 3) := by decide +kernel
theorem dX8_thieves_36 : decode cX8_thieves 36 = .ok (.iload 4, 2) := by decide +kernel
theorem dX8_thieves_38 : decode cX8_thieves 38 = .ok (.iconst 0, 1) := by decide +kernel
theorem dX8_thieves_39 : decode cX8_thieves 39 = .ok (.iconst 1, 1) := by decide +kernel
theorem dX8_thieves_40 : decode cX8_thieves 40 = .ok (.invokestatic 59, 3) := by decide +kernel
theorem dX8_thieves_43 : decode cX8_thieves 43 = .ok (.ifCond .ne 6, 3) := by decide +kernel
theorem dX8_thieves_46 : decode cX8_thieves 46 = .ok (.ldc 67, 2) := by decide +kernel
theorem dX8_thieves_48 : decode cX8_thieves 48 = .ok (.ireturn, 1) := by decide +kernel
theorem dX8_thieves_49 : decode cX8_thieves 49 = .ok (.aload_n 0, 1) := by decide +kernel
theorem dX8_thieves_50 : decode cX8_thieves 50 = .ok (.getfield 25, 3) := by decide +kernel
theorem dX8_thieves_53 : decode cX8_thieves 53 = .ok (.invokestatic 173, 3) := by decide +kernel
theorem dX8_thieves_56 : decode cX8_thieves 56 = .ok (.istore 5, 2) := by decide +kernel
theorem dX8_thieves_58 : decode cX8_thieves 58 = .ok (.iconst 0, 1) := by decide +kernel
theorem dX8_thieves_59 : decode cX8_thieves 59 = .ok (.istore 6, 2) := by decide +kernel
theorem dX8_thieves_61 : decode cX8_thieves 61 = .ok (.iconst 1, 1) := by decide +kernel
theorem dX8_thieves_62 : decode cX8_thieves 62 = .ok (.istore 7, 2) := by decide +kernel
theorem dX8_thieves_64 : decode cX8_thieves 64 = .ok (.iconst 0, 1) := by decide +kernel
theorem dX8_thieves_65 : decode cX8_thieves 65 = .ok (.istore 8, 2) := by decide +kernel
theorem dX8_thieves_67 : decode cX8_thieves 67 = .ok (.iload 8, 2) := by decide +kernel
theorem dX8_thieves_69 : decode cX8_thieves 69 = .ok (.aload_n 0, 1) := by decide +kernel
theorem dX8_thieves_70 : decode cX8_thieves 70 = .ok (.getfield 25, 3) := by decide +kernel
theorem dX8_thieves_73 : decode cX8_thieves 73 = .ok (.bipush 12, 2) := by decide +kernel
theorem dX8_thieves_75 : decode cX8_thieves 75 = .ok (.iaload, 1) := by decide +kernel
theorem dX8_thieves_76 : decode cX8_thieves 76 = .ok (.if_icmp .ge 30, 3) := by decide +kernel
theorem dX8_thieves_79 : decode cX8_thieves 79 = .ok (.iload 7, 2) := by decide +kernel
theorem dX8_thieves_81 : decode cX8_thieves 81 = .ok (.iload 5, 2) := by decide +kernel
theorem dX8_thieves_83 : decode cX8_thieves 83 = .ok (.iload 8, 2) := by decide +kernel
theorem dX8_thieves_85 : decode cX8_thieves 85 = .ok (.invokestatic 193, 3) := by decide +kernel
theorem dX8_thieves_88 : decode cX8_thieves 88 = .ok (.ifCond .eq 8, 3) := by decide +kernel
theorem dX8_thieves_91 : decode cX8_thieves 91 = .ok (.bipush 10, 2) := by decide +kernel
theorem dX8_thieves_93 : decode cX8_thieves 93 = .ok (.goto 4, 3) := by decide +kernel
theorem dX8_thieves_96 : decode cX8_thieves 96 = .ok (.iconst 1, 1) := by decide +kernel
theorem dX8_thieves_97 : decode cX8_thieves 97 = .ok (.imul, 1) := by decide +kernel
theorem dX8_thieves_98 : decode cX8_thieves 98 = .ok (.istore 7, 2) := by decide +kernel
theorem dX8_thieves_100 : decode cX8_thieves 100 = .ok (.iinc 8 1, 3) := by decide +kernel
theorem dX8_thieves_103 : decode cX8_thieves 103 = .ok (.goto (-36), 3) := by decide +kernel
theorem dX8_thieves_106 : decode cX8_thieves 106 = .ok (.iconst 0, 1) := by decide +kernel
theorem dX8_thieves_107 : decode cX8_thieves 107 = .ok (.istore 8, 2) := by decide +kernel
theorem dX8_thieves_109 : decode cX8_thieves 109 = .ok (.iload 8, 2) := by decide +kernel
theorem dX8_thieves_111 : decode cX8_thieves 111 = .ok (.iload 5, 2) := by decide +kernel
theorem dX8_thieves_113 : decode cX8_thieves 113 = .ok (.if_icmp .gt 160, 3) := by decide +kernel
theorem dX8_thieves_116 : decode cX8_thieves 116 = .ok (.iload 8, 2) := by decide +kernel
theorem dX8_thieves_118 : decode cX8_thieves 118 = .ok (.iload 5, 2) := by decide +kernel
theorem dX8_thieves_120 : decode cX8_thieves 120 = .ok (.iconst (-1), 1) := by decide +kernel
theorem dX8_thieves_121 : decode cX8_thieves 121 = .ok (.ixor, 1) := by decide +kernel
theorem dX8_thieves_122 : decode cX8_thieves 122 = .ok (.iand, 1) := by decide +kernel
theorem dX8_thieves_123 : decode cX8_thieves 123 = .ok (.ifCond .ne 7, 3) := by decide +kernel
theorem dX8_thieves_126 : decode cX8_thieves 126 = .ok (.iconst 1, 1) := by decide +kernel
theorem dX8_thieves_127 : decode cX8_thieves 127 = .ok (.goto 4, 3) := by decide +kernel
theorem dX8_thieves_130 : decode cX8_thieves 130 = .ok (.iconst 0, 1) := by decide +kernel
theorem dX8_thieves_131 : decode cX8_thieves 131 = .ok (.istore 9, 2) := by decide +kernel
theorem dX8_thieves_133 : decode cX8_thieves 133 = .ok (.aload_n 0, 1) := by decide +kernel
theorem dX8_thieves_134 : decode cX8_thieves 134 = .ok (.invokevirtual 186, 3) := by decide +kernel
theorem dX8_thieves_137 : decode cX8_thieves 137 = .ok (.iconst 0, 1) := by decide +kernel
theorem dX8_thieves_138 : decode cX8_thieves 138 = .ok (.istore 10, 2) := by decide +kernel
theorem dX8_thieves_140 : decode cX8_thieves 140 = .ok (.iload 10, 2) := by decide +kernel
theorem dX8_thieves_142 : decode cX8_thieves 142 = .ok (.aload_n 0, 1) := by decide +kernel
theorem dX8_thieves_143 : decode cX8_thieves 143 = .ok (.getfield 25, 3) := by decide +kernel
theorem dX8_thieves_146 : decode cX8_thieves 146 = .ok (.bipush 12, 2) := by decide +kernel
theorem dX8_thieves_148 : decode cX8_thieves 148 = .ok (.iaload, 1) := by decide +kernel
theorem dX8_thieves_149 : decode cX8_thieves 149 = .ok (.if_icmp .ge 88, 3) := by decide +kernel
theorem dX8_thieves_152 : decode cX8_thieves 152 = .ok (.iload 9, 2) := by decide +kernel
theorem dX8_thieves_154 : decode cX8_thieves 154 = .ok (.iload 5, 2) := by decide +kernel
theorem dX8_thieves_156 : decode cX8_thieves 156 = .ok (.iload 10, 2) := by decide +kernel
theorem dX8_thieves_158 : decode cX8_thieves 158 = .ok (.invokestatic 193, 3) := by decide +kernel
theorem dX8_thieves_161 : decode cX8_thieves 161 = .ok (.ifCond .ne 7, 3) := by decide +kernel
theorem dX8_thieves_164 : decode cX8_thieves 164 = .ok (.iconst 1, 1) := by decide +kernel
theorem dX8_thieves_165 : decode cX8_thieves 165 = .ok (.goto 21, 3) := by decide +kernel
theorem dX8_thieves_168 : decode cX8_thieves 168 = .ok (.iload 8, 2) := by decide +kernel
theorem dX8_thieves_170 : decode cX8_thieves 170 = .ok (.iload 10, 2) := by decide +kernel
theorem dX8_thieves_172 : decode cX8_thieves 172 = .ok (.invokestatic 193, 3) := by decide +kernel
theorem dX8_thieves_175 : decode cX8_thieves 175 = .ok (.ifCond .eq 7, 3) := by decide +kernel
theorem dX8_thieves_178 : decode cX8_thieves 178 = .ok (.iload_n 3, 1) := by decide +kernel
theorem dX8_thieves_179 : decode cX8_thieves 179 = .ok (.goto 7, 3) := by decide +kernel
theorem dX8_thieves_182 : decode cX8_thieves 182 = .ok (.bipush 10, 2) := by decide +kernel
theorem dX8_thieves_184 : decode cX8_thieves 184 = .ok (.iload_n 3, 1) := by decide +kernel
theorem dX8_thieves_185 : decode cX8_thieves 185 = .ok (.isub, 1) := by decide +kernel
theorem dX8_thieves_186 : decode cX8_thieves 186 = .ok (.imul, 1) := by decide +kernel
theorem dX8_thieves_187 : decode cX8_thieves 187 = .ok (.istore 9, 2) := by decide +kernel
theorem dX8_thieves_189 : decode cX8_thieves 189 = .ok (.aload_n 0, 1) := by decide +kernel
theorem dX8_thieves_190 : decode cX8_thieves 190 = .ok (.getfield 31, 3) := by decide +kernel
theorem dX8_thieves_193 : decode cX8_thieves 193 = .ok (.bipush 13, 2) := by decide +kernel
theorem dX8_thieves_195 : decode cX8_thieves 195 = .ok (.iconst 4, 1) := by decide +kernel
theorem dX8_thieves_196 : decode cX8_thieves 196 = .ok (.iload 10, 2) := by decide +kernel
theorem dX8_thieves_198 : decode cX8_thieves 198 = .ok (.imul, 1) := by decide +kernel
theorem dX8_thieves_199 : decode cX8_thieves 199 = .ok (.iadd, 1) := by decide +kernel
theorem dX8_thieves_200 : decode cX8_thieves 200 = .ok (.iconst 2, 1) := by decide +kernel
theorem dX8_thieves_201 : decode cX8_thieves 201 = .ok (.iadd, 1) := by decide +kernel
theorem dX8_thieves_202 : decode cX8_thieves 202 = .ok (.iload 8, 2) := by decide +kernel
theorem dX8_thieves_204 : decode cX8_thieves 204 = .ok (.iload 10, 2) := by decide +kernel
theorem dX8_thieves_206 : decode cX8_thieves 206 = .ok (.invokestatic 193, 3) := by decide +kernel
theorem dX8_thieves_209 : decode cX8_thieves 209 = .ok (.ifCond .eq 7, 3) := by decide +kernel
theorem dX8_thieves_212 : decode cX8_thieves 212 = .ok (.iconst 0, 1) := by decide +kernel
theorem dX8_thieves_213 : decode cX8_thieves 213 = .ok (.goto 17, 3) := by decide +kernel
theorem dX8_thieves_216 : decode cX8_thieves 216 = .ok (.aload_n 0, 1) := by decide +kernel
theorem dX8_thieves_217 : decode cX8_thieves 217 = .ok (.getfield 31, 3) := by decide +kernel
theorem dX8_thieves_220 : decode cX8_thieves 220 = .ok (.bipush 13, 2) := by decide +kernel
theorem dX8_thieves_222 : decode cX8_thieves 222 = .ok (.iconst 4, 1) := by decide +kernel
theorem dX8_thieves_223 : decode cX8_thieves 223 = .ok (.iload 10, 2) := by decide +kernel
theorem dX8_thieves_225 : decode cX8_thieves 225 = .ok (.imul, 1) := by decide +kernel
theorem dX8_thieves_226 : decode cX8_thieves 226 = .ok (.iadd, 1) := by decide +kernel
theorem dX8_thieves_227 : decode cX8_thieves 227 = .ok (.iconst 2, 1) := by decide +kernel
theorem dX8_thieves_228 : decode cX8_thieves 228 = .ok (.iadd, 1) := by decide +kernel
theorem dX8_thieves_229 : decode cX8_thieves 229 = .ok (.iaload, 1) := by decide +kernel
theorem dX8_thieves_230 : decode cX8_thieves 230 = .ok (.iastore, 1) := by decide +kernel
theorem dX8_thieves_231 : decode cX8_thieves 231 = .ok (.iinc 10 1, 3) := by decide +kernel
theorem dX8_thieves_234 : decode cX8_thieves 234 = .ok (.goto (-94), 3) := by decide +kernel
theorem dX8_thieves_237 : decode cX8_thieves 237 = .ok (.aload_n 0, 1) := by decide +kernel
theorem dX8_thieves_238 : decode cX8_thieves 238 = .ok (.iload_n 2, 1) := by decide +kernel
theorem dX8_thieves_239 : decode cX8_thieves 239 = .ok (.invokevirtual 189, 3) := by decide +kernel
theorem dX8_thieves_242 : decode cX8_thieves 242 = .ok (.iload 6, 2) := by decide +kernel
theorem dX8_thieves_244 : decode cX8_thieves 244 = .ok (.aload_n 0, 1) := by decide +kernel
theorem dX8_thieves_245 : decode cX8_thieves 245 = .ok (.getfield 31, 3) := by decide +kernel
theorem dX8_thieves_248 : decode cX8_thieves 248 = .ok (.invokestatic 173, 3) := by decide +kernel
theorem dX8_thieves_251 : decode cX8_thieves 251 = .ok (.invokestatic 131, 3) := by decide +kernel
theorem dX8_thieves_254 : decode cX8_thieves 254 = .ok (.iload_n 1, 1) := by decide +kernel
theorem dX8_thieves_255 : decode cX8_thieves 255 = .ok (.if_icmp .lt 8, 3) := by decide +kernel
theorem dX8_thieves_258 : decode cX8_thieves 258 = .ok (.iload 9, 2) := by decide +kernel
theorem dX8_thieves_260 : decode cX8_thieves 260 = .ok (.goto 4, 3) := by decide +kernel
theorem dX8_thieves_263 : decode cX8_thieves 263 = .ok (.iconst 0, 1) := by decide +kernel
theorem dX8_thieves_264 : decode cX8_thieves 264 = .ok (.iadd, 1) := by decide +kernel
theorem dX8_thieves_265 : decode cX8_thieves 265 = .ok (.istore 6, 2) := by decide +kernel
theorem dX8_thieves_267 : decode cX8_thieves 267 = .ok (.iinc 8 1, 3) := by decide +kernel
theorem dX8_thieves_270 : decode cX8_thieves 270 = .ok (.goto (-161), 3) := by decide +kernel
theorem dX8_thieves_273 : decode cX8_thieves 273 = .ok (.iload 6, 2) := by decide +kernel
theorem dX8_thieves_275 : decode cX8_thieves 275 = .ok (.istore 8, 2) := by decide +kernel
theorem dX8_thieves_277 : decode cX8_thieves 277 = .ok (.iload 7, 2) := by decide +kernel
theorem dX8_thieves_279 : decode cX8_thieves 279 = .ok (.istore 9, 2) := by decide +kernel
theorem dX8_thieves_281 : decode cX8_thieves 281 = .ok (.iload 9, 2) := by decide +kernel
theorem dX8_thieves_283 : decode cX8_thieves 283 = .ok (.ifCond .eq 21, 3) := by decide +kernel
theorem dX8_thieves_286 : decode cX8_thieves 286 = .ok (.iload 8, 2) := by decide +kernel
theorem dX8_thieves_288 : decode cX8_thieves 288 = .ok (.iload 9, 2) := by decide +kernel
theorem dX8_thieves_290 : decode cX8_thieves 290 = .ok (.irem, 1) := by decide +kernel
theorem dX8_thieves_291 : decode cX8_thieves 291 = .ok (.istore 10, 2) := by decide +kernel
theorem dX8_thieves_293 : decode cX8_thieves 293 = .ok (.iload 9, 2) := by decide +kernel
theorem dX8_thieves_295 : decode cX8_thieves 295 = .ok (.istore 8, 2) := by decide +kernel
theorem dX8_thieves_297 : decode cX8_thieves 297 = .ok (.iload 10, 2) := by decide +kernel
theorem dX8_thieves_299 : decode cX8_thieves 299 = .ok (.istore 9, 2) := by decide +kernel
theorem dX8_thieves_301 : decode cX8_thieves 301 = .ok (.goto (-20), 3) := by decide +kernel
theorem dX8_thieves_304 : decode cX8_thieves 304 = .ok (.iload 4, 2) := by decide +kernel
theorem dX8_thieves_306 : decode cX8_thieves 306 = .ok (.ifCond .ne 8, 3) := by decide +kernel
theorem dX8_thieves_309 : decode cX8_thieves 309 = .ok (.iload 6, 2) := by decide +kernel
theorem dX8_thieves_311 : decode cX8_thieves 311 = .ok (.goto 5, 3) := by decide +kernel
theorem dX8_thieves_314 : decode cX8_thieves 314 = .ok (.iload 7, 2) := by decide +kernel
theorem dX8_thieves_316 : decode cX8_thieves 316 = .ok (.iload 8, 2) := by decide +kernel
theorem dX8_thieves_318 : decode cX8_thieves 318 = .ok (.idiv, 1) := by decide +kernel
theorem dX8_thieves_319 : decode cX8_thieves 319 = .ok (.ireturn, 1) := by decide +kernel
theorem dX8_drawn_0 : decode cX8_drawn 0 = .ok (.aload_n 0, 1) := by decide +kernel
theorem dX8_drawn_1 : decode cX8_drawn 1 = .ok (.invokevirtual 166, 3) := by decide +kernel
theorem dX8_drawn_4 : decode cX8_drawn 4 = .ok (.ifCond .ne 6, 3) := by decide +kernel
theorem dX8_drawn_7 : decode cX8_drawn 7 = .ok (.ldc 169, 2) := by decide +kernel
theorem dX8_drawn_9 : decode cX8_drawn 9 = .ok (.ireturn, 1) := by decide +kernel
theorem dX8_drawn_10 : decode cX8_drawn 10 = .ok (.iload_n 1, 1) := by decide +kernel
theorem dX8_drawn_11 : decode cX8_drawn 11 = .ok (.invokestatic 183, 3) := by decide +kernel
theorem dX8_drawn_14 : decode cX8_drawn 14 = .ok (.ifCond .eq 22, 3) := by decide +kernel
theorem dX8_drawn_17 : decode cX8_drawn 17 = .ok (.iload_n 2, 1) := by decide +kernel
theorem dX8_drawn_18 : decode cX8_drawn 18 = .ok (.iconst 1, 1) := by decide +kernel
theorem dX8_drawn_19 : decode cX8_drawn 19 = .ok (.ldc 209, 2) := by decide +kernel
theorem dX8_drawn_21 : decode cX8_drawn 21 = .ok (.invokestatic 59, 3) := by decide +kernel
theorem dX8_drawn_24 : decode cX8_drawn 24 = .ok (.ifCond .eq 12, 3) := by decide +kernel
theorem dX8_drawn_27 : decode cX8_drawn 27 = .ok (.iload_n 3, 1) := by decide +kernel
theorem dX8_drawn_28 : decode cX8_drawn 28 = .ok (.iconst 0, 1) := by decide +kernel
theorem dX8_drawn_29 : decode cX8_drawn 29 = .ok (.iconst 1, 1) := by decide +kernel
theorem dX8_drawn_30 : decode cX8_drawn 30 = .ok (.invokestatic 59, 3) := by decide +kernel
theorem dX8_drawn_33 : decode cX8_drawn 33 = .ok (.ifCond .ne 6, 3) := by decide +kernel
theorem dX8_drawn_36 : decode cX8_drawn 36 = .ok (.ldc 67, 2) := by decide +kernel
theorem dX8_drawn_38 : decode cX8_drawn 38 = .ok (.ireturn, 1) := by decide +kernel
theorem dX8_drawn_39 : decode cX8_drawn 39 = .ok (.aload_n 0, 1) := by decide +kernel
theorem dX8_drawn_40 : decode cX8_drawn 40 = .ok (.invokevirtual 186, 3) := by decide +kernel
theorem dX8_drawn_43 : decode cX8_drawn 43 = .ok (.iload_n 2, 1) := by decide +kernel
theorem dX8_drawn_44 : decode cX8_drawn 44 = .ok (.i2l, 1) := by decide +kernel
theorem dX8_drawn_45 : decode cX8_drawn 45 = .ok (.lstore 4, 2) := by decide +kernel
theorem dX8_drawn_47 : decode cX8_drawn 47 = .ok (.iconst 0, 1) := by decide +kernel
theorem dX8_drawn_48 : decode cX8_drawn 48 = .ok (.istore 6, 2) := by decide +kernel
theorem dX8_drawn_50 : decode cX8_drawn 50 = .ok (.iload 6, 2) := by decide +kernel
theorem dX8_drawn_52 : decode cX8_drawn 52 = .ok (.iload_n 1, 1) := by decide +kernel
theorem dX8_drawn_53 : decode cX8_drawn 53 = .ok (.if_icmp .ge 64, 3) := by decide +kernel
theorem dX8_drawn_56 : decode cX8_drawn 56 = .ok (.lload 4, 2) := by decide +kernel
theorem dX8_drawn_58 : decode cX8_drawn 58 = .ok (.ldc2_w 210, 3) := by decide +kernel
theorem dX8_drawn_61 : decode cX8_drawn 61 = .ok (.lmul, 1) := by decide +kernel
theorem dX8_drawn_62 : decode cX8_drawn 62 = .ok (.ldc2_w 212, 3) := by decide +kernel
theorem dX8_drawn_65 : decode cX8_drawn 65 = .ok (.lrem, 1) := by decide +kernel
theorem dX8_drawn_66 : decode cX8_drawn 66 = .ok (.lstore 4, 2) := by decide +kernel
theorem dX8_drawn_68 : decode cX8_drawn 68 = .ok (.aload_n 0, 1) := by decide +kernel
theorem dX8_drawn_69 : decode cX8_drawn 69 = .ok (.getfield 25, 3) := by decide +kernel
theorem dX8_drawn_72 : decode cX8_drawn 72 = .ok (.bipush 12, 2) := by decide +kernel
theorem dX8_drawn_74 : decode cX8_drawn 74 = .ok (.iaload, 1) := by decide +kernel
theorem dX8_drawn_75 : decode cX8_drawn 75 = .ok (.ifCond .le 29, 3) := by decide +kernel
theorem dX8_drawn_78 : decode cX8_drawn 78 = .ok (.aload_n 0, 1) := by decide +kernel
theorem dX8_drawn_79 : decode cX8_drawn 79 = .ok (.getfield 31, 3) := by decide +kernel
theorem dX8_drawn_82 : decode cX8_drawn 82 = .ok (.lload 4, 2) := by decide +kernel
theorem dX8_drawn_84 : decode cX8_drawn 84 = .ok (.aload_n 0, 1) := by decide +kernel
theorem dX8_drawn_85 : decode cX8_drawn 85 = .ok (.getfield 25, 3) := by decide +kernel
theorem dX8_drawn_88 : decode cX8_drawn 88 = .ok (.bipush 12, 2) := by decide +kernel
theorem dX8_drawn_90 : decode cX8_drawn 90 = .ok (.iaload, 1) := by decide +kernel
theorem dX8_drawn_91 : decode cX8_drawn 91 = .ok (.i2l, 1) := by decide +kernel
theorem dX8_drawn_92 : decode cX8_drawn 92 = .ok (.lrem, 1) := by decide +kernel
theorem dX8_drawn_93 : decode cX8_drawn 93 = .ok (.l2i, 1) := by decide +kernel
theorem dX8_drawn_94 : decode cX8_drawn 94 = .ok (.lload 4, 2) := by decide +kernel
theorem dX8_drawn_96 : decode cX8_drawn 96 = .ok (.ldc2_w 214, 3) := by decide +kernel
theorem dX8_drawn_99 : decode cX8_drawn 99 = .ok (.lrem, 1) := by decide +kernel
theorem dX8_drawn_100 : decode cX8_drawn 100 = .ok (.l2i, 1) := by decide +kernel
theorem dX8_drawn_101 : decode cX8_drawn 101 = .ok (.invokestatic 158, 3) := by decide +kernel
theorem dX8_drawn_104 : decode cX8_drawn 104 = .ok (.aload_n 0, 1) := by decide +kernel
theorem dX8_drawn_105 : decode cX8_drawn 105 = .ok (.getfield 31, 3) := by decide +kernel
theorem dX8_drawn_108 : decode cX8_drawn 108 = .ok (.invokestatic 162, 3) := by decide +kernel
theorem dX8_drawn_111 : decode cX8_drawn 111 = .ok (.iinc 6 1, 3) := by decide +kernel
theorem dX8_drawn_114 : decode cX8_drawn 114 = .ok (.goto (-64), 3) := by decide +kernel
theorem dX8_drawn_117 : decode cX8_drawn 117 = .ok (.iload_n 3, 1) := by decide +kernel
theorem dX8_drawn_118 : decode cX8_drawn 118 = .ok (.ifCond .ne 13, 3) := by decide +kernel
theorem dX8_drawn_121 : decode cX8_drawn 121 = .ok (.aload_n 0, 1) := by decide +kernel
theorem dX8_drawn_122 : decode cX8_drawn 122 = .ok (.getfield 31, 3) := by decide +kernel
theorem dX8_drawn_125 : decode cX8_drawn 125 = .ok (.invokestatic 173, 3) := by decide +kernel
theorem dX8_drawn_128 : decode cX8_drawn 128 = .ok (.goto 10, 3) := by decide +kernel
theorem dX8_drawn_131 : decode cX8_drawn 131 = .ok (.aload_n 0, 1) := by decide +kernel
theorem dX8_drawn_132 : decode cX8_drawn 132 = .ok (.getfield 31, 3) := by decide +kernel
theorem dX8_drawn_135 : decode cX8_drawn 135 = .ok (.invokestatic 200, 3) := by decide +kernel
theorem dX8_drawn_138 : decode cX8_drawn 138 = .ok (.ireturn, 1) := by decide +kernel
theorem dX8_image_0 : decode cX8_image 0 = .ok (.iload_n 1, 1) := by decide +kernel
theorem dX8_image_1 : decode cX8_image 1 = .ok (.iconst 0, 1) := by decide +kernel
theorem dX8_image_2 : decode cX8_image 2 = .ok (.iconst 1, 1) := by decide +kernel
theorem dX8_image_3 : decode cX8_image 3 = .ok (.invokestatic 59, 3) := by decide +kernel
theorem dX8_image_6 : decode cX8_image 6 = .ok (.ifCond .ne 6, 3) := by decide +kernel
theorem dX8_image_9 : decode cX8_image 9 = .ok (.ldc 67, 2) := by decide +kernel
theorem dX8_image_11 : decode cX8_image 11 = .ok (.ireturn, 1) := by decide +kernel
theorem dX8_image_12 : decode cX8_image 12 = .ok (.aload_n 0, 1) := by decide +kernel
theorem dX8_image_13 : decode cX8_image 13 = .ok (.invokevirtual 166, 3) := by decide +kernel
theorem dX8_image_16 : decode cX8_image 16 = .ok (.ifCond .ne 6, 3) := by decide +kernel
theorem dX8_image_19 : decode cX8_image 19 = .ok (.ldc 169, 2) := by decide +kernel
theorem dX8_image_21 : decode cX8_image 21 = .ok (.ireturn, 1) := by decide +kernel
theorem dX8_image_22 : decode cX8_image 22 = .ok (.aload_n 0, 1) := by decide +kernel
theorem dX8_image_23 : decode cX8_image 23 = .ok (.getfield 25, 3) := by decide +kernel
theorem dX8_image_26 : decode cX8_image 26 = .ok (.iconst 0, 1) := by decide +kernel
theorem dX8_image_27 : decode cX8_image 27 = .ok (.aload_n 0, 1) := by decide +kernel
theorem dX8_image_28 : decode cX8_image 28 = .ok (.getfield 37, 3) := by decide +kernel
theorem dX8_image_31 : decode cX8_image 31 = .ok (.bipush 33, 2) := by decide +kernel
theorem dX8_image_33 : decode cX8_image 33 = .ok (.iload_n 1, 1) := by decide +kernel
theorem dX8_image_34 : decode cX8_image 34 = .ok (.imul, 1) := by decide +kernel
theorem dX8_image_35 : decode cX8_image 35 = .ok (.invokestatic 148, 3) := by decide +kernel
theorem dX8_image_38 : decode cX8_image 38 = .ok (.aload_n 0, 1) := by decide +kernel
theorem dX8_image_39 : decode cX8_image 39 = .ok (.getfield 40, 3) := by decide +kernel
theorem dX8_image_42 : decode cX8_image 42 = .ok (.iload_n 1, 1) := by decide +kernel
theorem dX8_image_43 : decode cX8_image 43 = .ok (.iconst 1, 1) := by decide +kernel
theorem dX8_image_44 : decode cX8_image 44 = .ok (.bastore, 1) := by decide +kernel
theorem dX8_image_45 : decode cX8_image 45 = .ok (.iconst 1, 1) := by decide +kernel
theorem dX8_image_46 : decode cX8_image 46 = .ok (.ireturn, 1) := by decide +kernel
theorem dX8_recall_0 : decode cX8_recall 0 = .ok (.iload_n 1, 1) := by decide +kernel
theorem dX8_recall_1 : decode cX8_recall 1 = .ok (.iconst 0, 1) := by decide +kernel
theorem dX8_recall_2 : decode cX8_recall 2 = .ok (.iconst 1, 1) := by decide +kernel
theorem dX8_recall_3 : decode cX8_recall 3 = .ok (.invokestatic 59, 3) := by decide +kernel
theorem dX8_recall_6 : decode cX8_recall 6 = .ok (.ifCond .ne 6, 3) := by decide +kernel
theorem dX8_recall_9 : decode cX8_recall 9 = .ok (.ldc 67, 2) := by decide +kernel
theorem dX8_recall_11 : decode cX8_recall 11 = .ok (.ireturn, 1) := by decide +kernel
theorem dX8_recall_12 : decode cX8_recall 12 = .ok (.aload_n 0, 1) := by decide +kernel
theorem dX8_recall_13 : decode cX8_recall 13 = .ok (.getfield 40, 3) := by decide +kernel
theorem dX8_recall_16 : decode cX8_recall 16 = .ok (.iload_n 1, 1) := by decide +kernel
theorem dX8_recall_17 : decode cX8_recall 17 = .ok (.baload, 1) := by decide +kernel
theorem dX8_recall_18 : decode cX8_recall 18 = .ok (.ifCond .ne 6, 3) := by decide +kernel
theorem dX8_recall_21 : decode cX8_recall 21 = .ok (.ldc 169, 2) := by decide +kernel
theorem dX8_recall_23 : decode cX8_recall 23 = .ok (.ireturn, 1) := by decide +kernel
theorem dX8_recall_24 : decode cX8_recall 24 = .ok (.aload_n 0, 1) := by decide +kernel
theorem dX8_recall_25 : decode cX8_recall 25 = .ok (.getfield 37, 3) := by decide +kernel
theorem dX8_recall_28 : decode cX8_recall 28 = .ok (.bipush 33, 2) := by decide +kernel
theorem dX8_recall_30 : decode cX8_recall 30 = .ok (.iload_n 1, 1) := by decide +kernel
theorem dX8_recall_31 : decode cX8_recall 31 = .ok (.imul, 1) := by decide +kernel
theorem dX8_recall_32 : decode cX8_recall 32 = .ok (.aload_n 0, 1) := by decide +kernel
theorem dX8_recall_33 : decode cX8_recall 33 = .ok (.getfield 25, 3) := by decide +kernel
theorem dX8_recall_36 : decode cX8_recall 36 = .ok (.iconst 0, 1) := by decide +kernel
theorem dX8_recall_37 : decode cX8_recall 37 = .ok (.invokestatic 148, 3) := by decide +kernel
theorem dX8_recall_40 : decode cX8_recall 40 = .ok (.aload_n 0, 1) := by decide +kernel
theorem dX8_recall_41 : decode cX8_recall 41 = .ok (.iconst 0, 1) := by decide +kernel
theorem dX8_recall_42 : decode cX8_recall 42 = .ok (.putfield 152, 3) := by decide +kernel
theorem dX8_recall_45 : decode cX8_recall 45 = .ok (.iconst 1, 1) := by decide +kernel
theorem dX8_recall_46 : decode cX8_recall 46 = .ok (.ireturn, 1) := by decide +kernel
theorem dX8_kindIn_0 : decode cX8_kindIn 0 = .ok (.aload_n 0, 1) := by decide +kernel
theorem dX8_kindIn_1 : decode cX8_kindIn 1 = .ok (.getfield 25, 3) := by decide +kernel
theorem dX8_kindIn_4 : decode cX8_kindIn 4 = .ok (.bipush 13, 2) := by decide +kernel
theorem dX8_kindIn_6 : decode cX8_kindIn 6 = .ok (.iconst 4, 1) := by decide +kernel
theorem dX8_kindIn_7 : decode cX8_kindIn 7 = .ok (.iload_n 1, 1) := by decide +kernel
theorem dX8_kindIn_8 : decode cX8_kindIn 8 = .ok (.imul, 1) := by decide +kernel
theorem dX8_kindIn_9 : decode cX8_kindIn 9 = .ok (.iadd, 1) := by decide +kernel
theorem dX8_kindIn_10 : decode cX8_kindIn 10 = .ok (.iaload, 1) := by decide +kernel
theorem dX8_kindIn_11 : decode cX8_kindIn 11 = .ok (.ireturn, 1) := by decide +kernel
theorem dX8_kind_0 : decode cX8_kind 0 = .ok (.aload_n 0, 1) := by decide +kernel
theorem dX8_kind_1 : decode cX8_kind 1 = .ok (.iload_n 1, 1) := by decide +kernel
theorem dX8_kind_2 : decode cX8_kind 2 = .ok (.invokevirtual 177, 3) := by decide +kernel
theorem dX8_kind_5 : decode cX8_kind 5 = .ok (.ifCond .eq 11, 3) := by decide +kernel
theorem dX8_kind_8 : decode cX8_kind 8 = .ok (.aload_n 0, 1) := by decide +kernel
theorem dX8_kind_9 : decode cX8_kind 9 = .ok (.iload_n 1, 1) := by decide +kernel
theorem dX8_kind_10 : decode cX8_kind 10 = .ok (.invokevirtual 216, 3) := by decide +kernel
theorem dX8_kind_13 : decode cX8_kind 13 = .ok (.goto 5, 3) := by decide +kernel
theorem dX8_kind_16 : decode cX8_kind 16 = .ok (.ldc 67, 2) := by decide +kernel
theorem dX8_kind_18 : decode cX8_kind 18 = .ok (.ireturn, 1) := by decide +kernel
theorem dX8_as_0 : decode cX8_as 0 = .ok (.aload_n 0, 1) := by decide +kernel
theorem dX8_as_1 : decode cX8_as 1 = .ok (.iload_n 1, 1) := by decide +kernel
theorem dX8_as_2 : decode cX8_as 2 = .ok (.invokevirtual 177, 3) := by decide +kernel
theorem dX8_as_5 : decode cX8_as 5 = .ok (.ifCond .eq 12, 3) := by decide +kernel
theorem dX8_as_8 : decode cX8_as 8 = .ok (.iload_n 2, 1) := by decide +kernel
theorem dX8_as_9 : decode cX8_as 9 = .ok (.iconst 0, 1) := by decide +kernel
theorem dX8_as_10 : decode cX8_as 10 = .ok (.iconst 5, 1) := by decide +kernel
theorem dX8_as_11 : decode cX8_as 11 = .ok (.invokestatic 59, 3) := by decide +kernel
theorem dX8_as_14 : decode cX8_as 14 = .ok (.ifCond .ne 6, 3) := by decide +kernel
theorem dX8_as_17 : decode cX8_as 17 = .ok (.ldc 67, 2) := by decide +kernel
theorem dX8_as_19 : decode cX8_as 19 = .ok (.ireturn, 1) := by decide +kernel
theorem dX8_as_20 : decode cX8_as 20 = .ok (.aload_n 0, 1) := by decide +kernel
theorem dX8_as_21 : decode cX8_as 21 = .ok (.iload_n 1, 1) := by decide +kernel
theorem dX8_as_22 : decode cX8_as 22 = .ok (.invokevirtual 216, 3) := by decide +kernel
theorem dX8_as_25 : decode cX8_as 25 = .ok (.istore_n 3, 1) := by decide +kernel
theorem dX8_as_26 : decode cX8_as 26 = .ok (.iload_n 2, 1) := by decide +kernel
theorem dX8_as_27 : decode cX8_as 27 = .ok (.ifCond .eq 28, 3) := by decide +kernel
theorem dX8_as_30 : decode cX8_as 30 = .ok (.iload_n 2, 1) := by decide +kernel
theorem dX8_as_31 : decode cX8_as 31 = .ok (.iload_n 3, 1) := by decide +kernel
theorem dX8_as_32 : decode cX8_as 32 = .ok (.if_icmp .eq 23, 3) := by decide +kernel
theorem dX8_as_35 : decode cX8_as 35 = .ok (.iload_n 2, 1) := by decide +kernel
theorem dX8_as_36 : decode cX8_as 36 = .ok (.iconst 1, 1) := by decide +kernel
theorem dX8_as_37 : decode cX8_as 37 = .ok (.if_icmp .ne 8, 3) := by decide +kernel
theorem dX8_as_40 : decode cX8_as 40 = .ok (.iload_n 3, 1) := by decide +kernel
theorem dX8_as_41 : decode cX8_as 41 = .ok (.iconst 4, 1) := by decide +kernel
theorem dX8_as_42 : decode cX8_as 42 = .ok (.if_icmp .lt 13, 3) := by decide +kernel
theorem dX8_as_45 : decode cX8_as 45 = .ok (.iload_n 2, 1) := by decide +kernel
theorem dX8_as_46 : decode cX8_as 46 = .ok (.iconst 4, 1) := by decide +kernel
theorem dX8_as_47 : decode cX8_as 47 = .ok (.if_icmp .ne 12, 3) := by decide +kernel
theorem dX8_as_50 : decode cX8_as 50 = .ok (.iload_n 3, 1) := by decide +kernel
theorem dX8_as_51 : decode cX8_as 51 = .ok (.iconst 5, 1) := by decide +kernel
theorem dX8_as_52 : decode cX8_as 52 = .ok (.if_icmp .ne 7, 3) := by decide +kernel
theorem dX8_as_55 : decode cX8_as 55 = .ok (.iconst 1, 1) := by decide +kernel
theorem dX8_as_56 : decode cX8_as 56 = .ok (.goto 4, 3) := by decide +kernel
theorem dX8_as_59 : decode cX8_as 59 = .ok (.iconst 0, 1) := by decide +kernel
theorem dX8_as_60 : decode cX8_as 60 = .ok (.istore 4, 2) := by decide +kernel
theorem dX8_as_62 : decode cX8_as 62 = .ok (.iload 4, 2) := by decide +kernel
theorem dX8_as_64 : decode cX8_as 64 = .ok (.ifCond .eq 11, 3) := by decide +kernel
theorem dX8_as_67 : decode cX8_as 67 = .ok (.aload_n 0, 1) := by decide +kernel
theorem dX8_as_68 : decode cX8_as 68 = .ok (.iload_n 1, 1) := by decide +kernel
theorem dX8_as_69 : decode cX8_as 69 = .ok (.invokevirtual 72, 3) := by decide +kernel
theorem dX8_as_72 : decode cX8_as 72 = .ok (.goto 8, 3) := by decide +kernel
theorem dX8_as_75 : decode cX8_as 75 = .ok (.aload_n 0, 1) := by decide +kernel
theorem dX8_as_76 : decode cX8_as 76 = .ok (.iconst 3, 1) := by decide +kernel
theorem dX8_as_77 : decode cX8_as 77 = .ok (.invokevirtual 68, 3) := by decide +kernel
theorem dX8_as_80 : decode cX8_as 80 = .ok (.ireturn, 1) := by decide +kernel
theorem dX8_begins_0 : decode cX8_begins 0 = .ok (.aload_n 0, 1) := by decide +kernel
theorem dX8_begins_1 : decode cX8_begins 1 = .ok (.getfield 219, 3) := by decide +kernel
theorem dX8_begins_4 : decode cX8_begins 4 = .ok (.bipush 16, 2) := by decide +kernel
theorem dX8_begins_6 : decode cX8_begins 6 = .ok (.if_icmp .ge 23, 3) := by decide +kernel
theorem dX8_begins_9 : decode cX8_begins 9 = .ok (.aload_n 0, 1) := by decide +kernel
theorem dX8_begins_10 : decode cX8_begins 10 = .ok (.getfield 50, 3) := by decide +kernel
theorem dX8_begins_13 : decode cX8_begins 13 = .ok (.aload_n 0, 1) := by decide +kernel
theorem dX8_begins_14 : decode cX8_begins 14 = .ok (.getfield 219, 3) := by decide +kernel
theorem dX8_begins_17 : decode cX8_begins 17 = .ok (.iload_n 1, 1) := by decide +kernel
theorem dX8_begins_18 : decode cX8_begins 18 = .ok (.iastore, 1) := by decide +kernel
theorem dX8_begins_19 : decode cX8_begins 19 = .ok (.aload_n 0, 1) := by decide +kernel
theorem dX8_begins_20 : decode cX8_begins 20 = .ok (.dup, 1) := by decide +kernel
theorem dX8_begins_21 : decode cX8_begins 21 = .ok (.getfield 219, 3) := by decide +kernel
theorem dX8_begins_24 : decode cX8_begins 24 = .ok (.iconst 1, 1) := by decide +kernel
theorem dX8_begins_25 : decode cX8_begins 25 = .ok (.iadd, 1) := by decide +kernel
theorem dX8_begins_26 : decode cX8_begins 26 = .ok (.putfield 219, 3) := by decide +kernel
theorem dX8_begins_29 : decode cX8_begins 29 = .ok (.return_, 1) := by decide +kernel
theorem dX8_oilMark_0 : decode cX8_oilMark 0 = .ok (.aload_n 0, 1) := by decide +kernel
theorem dX8_oilMark_1 : decode cX8_oilMark 1 = .ok (.iload_n 1, 1) := by decide +kernel
theorem dX8_oilMark_2 : decode cX8_oilMark 2 = .ok (.invokevirtual 216, 3) := by decide +kernel
theorem dX8_oilMark_5 : decode cX8_oilMark 5 = .ok (.istore_n 2, 1) := by decide +kernel
theorem dX8_oilMark_6 : decode cX8_oilMark 6 = .ok (.iload_n 2, 1) := by decide +kernel
theorem dX8_oilMark_7 : decode cX8_oilMark 7 = .ok (.iconst 1, 1) := by decide +kernel
theorem dX8_oilMark_8 : decode cX8_oilMark 8 = .ok (.if_icmp .eq 19, 3) := by decide +kernel
theorem dX8_oilMark_11 : decode cX8_oilMark 11 = .ok (.aload_n 0, 1) := by decide +kernel
theorem dX8_oilMark_12 : decode cX8_oilMark 12 = .ok (.iload_n 2, 1) := by decide +kernel
theorem dX8_oilMark_13 : decode cX8_oilMark 13 = .ok (.iconst 2, 1) := by decide +kernel
theorem dX8_oilMark_14 : decode cX8_oilMark 14 = .ok (.if_icmp .ne 8, 3) := by decide +kernel
theorem dX8_oilMark_17 : decode cX8_oilMark 17 = .ok (.bipush 24, 2) := by decide +kernel
theorem dX8_oilMark_19 : decode cX8_oilMark 19 = .ok (.goto 5, 3) := by decide +kernel
theorem dX8_oilMark_22 : decode cX8_oilMark 22 = .ok (.bipush 22, 2) := by decide +kernel
theorem dX8_oilMark_24 : decode cX8_oilMark 24 = .ok (.invokevirtual 222, 3) := by decide +kernel
theorem dX8_oilMark_27 : decode cX8_oilMark 27 = .ok (.aload_n 0, 1) := by decide +kernel
theorem dX8_oilMark_28 : decode cX8_oilMark 28 = .ok (.bipush 21, 2) := by decide +kernel
theorem dX8_oilMark_30 : decode cX8_oilMark 30 = .ok (.invokevirtual 222, 3) := by decide +kernel
theorem dX8_oilMark_33 : decode cX8_oilMark 33 = .ok (.aload_n 0, 1) := by decide +kernel
theorem dX8_oilMark_34 : decode cX8_oilMark 34 = .ok (.bipush 20, 2) := by decide +kernel
theorem dX8_oilMark_36 : decode cX8_oilMark 36 = .ok (.invokevirtual 222, 3) := by decide +kernel
theorem dX8_oilMark_39 : decode cX8_oilMark 39 = .ok (.iload_n 1, 1) := by decide +kernel
theorem dX8_oilMark_40 : decode cX8_oilMark 40 = .ok (.aload_n 0, 1) := by decide +kernel
theorem dX8_oilMark_41 : decode cX8_oilMark 41 = .ok (.getfield 25, 3) := by decide +kernel
theorem dX8_oilMark_44 : decode cX8_oilMark 44 = .ok (.bipush 13, 2) := by decide +kernel
theorem dX8_oilMark_46 : decode cX8_oilMark 46 = .ok (.iconst 4, 1) := by decide +kernel
theorem dX8_oilMark_47 : decode cX8_oilMark 47 = .ok (.iload_n 1, 1) := by decide +kernel
theorem dX8_oilMark_48 : decode cX8_oilMark 48 = .ok (.imul, 1) := by decide +kernel
theorem dX8_oilMark_49 : decode cX8_oilMark 49 = .ok (.iadd, 1) := by decide +kernel
theorem dX8_oilMark_50 : decode cX8_oilMark 50 = .ok (.iconst 2, 1) := by decide +kernel
theorem dX8_oilMark_51 : decode cX8_oilMark 51 = .ok (.iadd, 1) := by decide +kernel
theorem dX8_oilMark_52 : decode cX8_oilMark 52 = .ok (.iaload, 1) := by decide +kernel
theorem dX8_oilMark_53 : decode cX8_oilMark 53 = .ok (.iadd, 1) := by decide +kernel
theorem dX8_oilMark_54 : decode cX8_oilMark 54 = .ok (.istore_n 3, 1) := by decide +kernel
theorem dX8_oilMark_55 : decode cX8_oilMark 55 = .ok (.iload_n 2, 1) := by decide +kernel
theorem dX8_oilMark_56 : decode cX8_oilMark 56 = .ok (.iconst 2, 1) := by decide +kernel
theorem dX8_oilMark_57 : decode cX8_oilMark 57 = .ok (.if_icmp .ne 9, 3) := by decide +kernel
theorem dX8_oilMark_60 : decode cX8_oilMark 60 = .ok (.iconst 2, 1) := by decide +kernel
theorem dX8_oilMark_61 : decode cX8_oilMark 61 = .ok (.iload_n 3, 1) := by decide +kernel
theorem dX8_oilMark_62 : decode cX8_oilMark 62 = .ok (.imul, 1) := by decide +kernel
theorem dX8_oilMark_63 : decode cX8_oilMark 63 = .ok (.goto 17, 3) := by decide +kernel
theorem dX8_oilMark_66 : decode cX8_oilMark 66 = .ok (.iload_n 2, 1) := by decide +kernel
theorem dX8_oilMark_67 : decode cX8_oilMark 67 = .ok (.iconst 3, 1) := by decide +kernel
theorem dX8_oilMark_68 : decode cX8_oilMark 68 = .ok (.if_icmp .ne 11, 3) := by decide +kernel
theorem dX8_oilMark_71 : decode cX8_oilMark 71 = .ok (.iload_n 3, 1) := by decide +kernel
theorem dX8_oilMark_72 : decode cX8_oilMark 72 = .ok (.sipush 1000, 3) := by decide +kernel
theorem dX8_oilMark_75 : decode cX8_oilMark 75 = .ok (.isub, 1) := by decide +kernel
theorem dX8_oilMark_76 : decode cX8_oilMark 76 = .ok (.goto 4, 3) := by decide +kernel
theorem dX8_oilMark_79 : decode cX8_oilMark 79 = .ok (.iload_n 3, 1) := by decide +kernel
theorem dX8_oilMark_80 : decode cX8_oilMark 80 = .ok (.ireturn, 1) := by decide +kernel
theorem dX8_pencilSize_0 : decode cX8_pencilSize 0 = .ok (.aload_n 0, 1) := by decide +kernel
theorem dX8_pencilSize_1 : decode cX8_pencilSize 1 = .ok (.iload_n 1, 1) := by decide +kernel
theorem dX8_pencilSize_2 : decode cX8_pencilSize 2 = .ok (.invokevirtual 216, 3) := by decide +kernel
theorem dX8_pencilSize_5 : decode cX8_pencilSize 5 = .ok (.iconst 5, 1) := by decide +kernel
theorem dX8_pencilSize_6 : decode cX8_pencilSize 6 = .ok (.if_icmp .ne 7, 3) := by decide +kernel
theorem dX8_pencilSize_9 : decode cX8_pencilSize 9 = .ok (.iconst 1, 1) := by decide +kernel
theorem dX8_pencilSize_10 : decode cX8_pencilSize 10 = .ok (.goto 4, 3) := by decide +kernel
theorem dX8_pencilSize_13 : decode cX8_pencilSize 13 = .ok (.iconst 0, 1) := by decide +kernel
theorem dX8_pencilSize_14 : decode cX8_pencilSize 14 = .ok (.istore_n 2, 1) := by decide +kernel
theorem dX8_pencilSize_15 : decode cX8_pencilSize 15 = .ok (.iload_n 2, 1) := by decide +kernel
theorem dX8_pencilSize_16 : decode cX8_pencilSize 16 = .ok (.ifCond .eq 9, 3) := by decide +kernel
theorem dX8_pencilSize_19 : decode cX8_pencilSize 19 = .ok (.aload_n 0, 1) := by decide +kernel
theorem dX8_pencilSize_20 : decode cX8_pencilSize 20 = .ok (.bipush 14, 2) := by decide +kernel
theorem dX8_pencilSize_22 : decode cX8_pencilSize 22 = .ok (.invokevirtual 222, 3) := by decide +kernel
theorem dX8_pencilSize_25 : decode cX8_pencilSize 25 = .ok (.aload_n 0, 1) := by decide +kernel
theorem dX8_pencilSize_26 : decode cX8_pencilSize 26 = .ok (.bipush 13, 2) := by decide +kernel
theorem dX8_pencilSize_28 : decode cX8_pencilSize 28 = .ok (.invokevirtual 222, 3) := by decide +kernel
theorem dX8_pencilSize_31 : decode cX8_pencilSize 31 = .ok (.aload_n 0, 1) := by decide +kernel
theorem dX8_pencilSize_32 : decode cX8_pencilSize 32 = .ok (.bipush 10, 2) := by decide +kernel
theorem dX8_pencilSize_34 : decode cX8_pencilSize 34 = .ok (.invokevirtual 222, 3) := by decide +kernel
theorem dX8_pencilSize_37 : decode cX8_pencilSize 37 = .ok (.aload_n 0, 1) := by decide +kernel
theorem dX8_pencilSize_38 : decode cX8_pencilSize 38 = .ok (.getfield 25, 3) := by decide +kernel
theorem dX8_pencilSize_41 : decode cX8_pencilSize 41 = .ok (.bipush 13, 2) := by decide +kernel
theorem dX8_pencilSize_43 : decode cX8_pencilSize 43 = .ok (.iconst 4, 1) := by decide +kernel
theorem dX8_pencilSize_44 : decode cX8_pencilSize 44 = .ok (.iload_n 1, 1) := by decide +kernel
theorem dX8_pencilSize_45 : decode cX8_pencilSize 45 = .ok (.imul, 1) := by decide +kernel
theorem dX8_pencilSize_46 : decode cX8_pencilSize 46 = .ok (.iadd, 1) := by decide +kernel
theorem dX8_pencilSize_47 : decode cX8_pencilSize 47 = .ok (.iconst 1, 1) := by decide +kernel
theorem dX8_pencilSize_48 : decode cX8_pencilSize 48 = .ok (.iadd, 1) := by decide +kernel
theorem dX8_pencilSize_49 : decode cX8_pencilSize 49 = .ok (.iaload, 1) := by decide +kernel
theorem dX8_pencilSize_50 : decode cX8_pencilSize 50 = .ok (.bipush 100, 2) := by decide +kernel
theorem dX8_pencilSize_52 : decode cX8_pencilSize 52 = .ok (.isub, 1) := by decide +kernel
theorem dX8_pencilSize_53 : decode cX8_pencilSize 53 = .ok (.istore_n 3, 1) := by decide +kernel
theorem dX8_pencilSize_54 : decode cX8_pencilSize 54 = .ok (.iload_n 2, 1) := by decide +kernel
theorem dX8_pencilSize_55 : decode cX8_pencilSize 55 = .ok (.ifCond .eq 9, 3) := by decide +kernel
theorem dX8_pencilSize_58 : decode cX8_pencilSize 58 = .ok (.iconst 2, 1) := by decide +kernel
theorem dX8_pencilSize_59 : decode cX8_pencilSize 59 = .ok (.iload_n 3, 1) := by decide +kernel
theorem dX8_pencilSize_60 : decode cX8_pencilSize 60 = .ok (.imul, 1) := by decide +kernel
theorem dX8_pencilSize_61 : decode cX8_pencilSize 61 = .ok (.goto 4, 3) := by decide +kernel
theorem dX8_pencilSize_64 : decode cX8_pencilSize 64 = .ok (.iload_n 3, 1) := by decide +kernel
theorem dX8_pencilSize_65 : decode cX8_pencilSize 65 = .ok (.ireturn, 1) := by decide +kernel
theorem dX8_oilSize_0 : decode cX8_oilSize 0 = .ok (.aload_n 0, 1) := by decide +kernel
theorem dX8_oilSize_1 : decode cX8_oilSize 1 = .ok (.iload_n 1, 1) := by decide +kernel
theorem dX8_oilSize_2 : decode cX8_oilSize 2 = .ok (.invokevirtual 216, 3) := by decide +kernel
theorem dX8_oilSize_5 : decode cX8_oilSize 5 = .ok (.iconst 2, 1) := by decide +kernel
theorem dX8_oilSize_6 : decode cX8_oilSize 6 = .ok (.if_icmp .ne 7, 3) := by decide +kernel
theorem dX8_oilSize_9 : decode cX8_oilSize 9 = .ok (.iconst 1, 1) := by decide +kernel
theorem dX8_oilSize_10 : decode cX8_oilSize 10 = .ok (.goto 4, 3) := by decide +kernel
theorem dX8_oilSize_13 : decode cX8_oilSize 13 = .ok (.iconst 0, 1) := by decide +kernel
theorem dX8_oilSize_14 : decode cX8_oilSize 14 = .ok (.istore_n 2, 1) := by decide +kernel
theorem dX8_oilSize_15 : decode cX8_oilSize 15 = .ok (.iload_n 2, 1) := by decide +kernel
theorem dX8_oilSize_16 : decode cX8_oilSize 16 = .ok (.ifCond .eq 9, 3) := by decide +kernel
theorem dX8_oilSize_19 : decode cX8_oilSize 19 = .ok (.aload_n 0, 1) := by decide +kernel
theorem dX8_oilSize_20 : decode cX8_oilSize 20 = .ok (.bipush 12, 2) := by decide +kernel
theorem dX8_oilSize_22 : decode cX8_oilSize 22 = .ok (.invokevirtual 222, 3) := by decide +kernel
theorem dX8_oilSize_25 : decode cX8_oilSize 25 = .ok (.aload_n 0, 1) := by decide +kernel
theorem dX8_oilSize_26 : decode cX8_oilSize 26 = .ok (.bipush 11, 2) := by decide +kernel
theorem dX8_oilSize_28 : decode cX8_oilSize 28 = .ok (.invokevirtual 222, 3) := by decide +kernel
theorem dX8_oilSize_31 : decode cX8_oilSize 31 = .ok (.aload_n 0, 1) := by decide +kernel
theorem dX8_oilSize_32 : decode cX8_oilSize 32 = .ok (.bipush 10, 2) := by decide +kernel
theorem dX8_oilSize_34 : decode cX8_oilSize 34 = .ok (.invokevirtual 222, 3) := by decide +kernel
theorem dX8_oilSize_37 : decode cX8_oilSize 37 = .ok (.aload_n 0, 1) := by decide +kernel
theorem dX8_oilSize_38 : decode cX8_oilSize 38 = .ok (.getfield 25, 3) := by decide +kernel
theorem dX8_oilSize_41 : decode cX8_oilSize 41 = .ok (.bipush 13, 2) := by decide +kernel
theorem dX8_oilSize_43 : decode cX8_oilSize 43 = .ok (.iconst 4, 1) := by decide +kernel
theorem dX8_oilSize_44 : decode cX8_oilSize 44 = .ok (.iload_n 1, 1) := by decide +kernel
theorem dX8_oilSize_45 : decode cX8_oilSize 45 = .ok (.imul, 1) := by decide +kernel
theorem dX8_oilSize_46 : decode cX8_oilSize 46 = .ok (.iadd, 1) := by decide +kernel
theorem dX8_oilSize_47 : decode cX8_oilSize 47 = .ok (.iconst 1, 1) := by decide +kernel
theorem dX8_oilSize_48 : decode cX8_oilSize 48 = .ok (.iadd, 1) := by decide +kernel
theorem dX8_oilSize_49 : decode cX8_oilSize 49 = .ok (.iaload, 1) := by decide +kernel
theorem dX8_oilSize_50 : decode cX8_oilSize 50 = .ok (.aload_n 0, 1) := by decide +kernel
theorem dX8_oilSize_51 : decode cX8_oilSize 51 = .ok (.iload_n 1, 1) := by decide +kernel
theorem dX8_oilSize_52 : decode cX8_oilSize 52 = .ok (.invokevirtual 225, 3) := by decide +kernel
theorem dX8_oilSize_55 : decode cX8_oilSize 55 = .ok (.iadd, 1) := by decide +kernel
theorem dX8_oilSize_56 : decode cX8_oilSize 56 = .ok (.istore_n 3, 1) := by decide +kernel
theorem dX8_oilSize_57 : decode cX8_oilSize 57 = .ok (.iload_n 2, 1) := by decide +kernel
theorem dX8_oilSize_58 : decode cX8_oilSize 58 = .ok (.ifCond .eq 8, 3) := by decide +kernel
theorem dX8_oilSize_61 : decode cX8_oilSize 61 = .ok (.iload_n 3, 1) := by decide +kernel
theorem dX8_oilSize_62 : decode cX8_oilSize 62 = .ok (.ineg, 1) := by decide +kernel
theorem dX8_oilSize_63 : decode cX8_oilSize 63 = .ok (.goto 4, 3) := by decide +kernel
theorem dX8_oilSize_66 : decode cX8_oilSize 66 = .ok (.iload_n 3, 1) := by decide +kernel
theorem dX8_oilSize_67 : decode cX8_oilSize 67 = .ok (.ireturn, 1) := by decide +kernel
theorem dX8_pencilMark_0 : decode cX8_pencilMark 0 = .ok (.aload_n 0, 1) := by decide +kernel
theorem dX8_pencilMark_1 : decode cX8_pencilMark 1 = .ok (.bipush 23, 2) := by decide +kernel
theorem dX8_pencilMark_3 : decode cX8_pencilMark 3 = .ok (.invokevirtual 222, 3) := by decide +kernel
theorem dX8_pencilMark_6 : decode cX8_pencilMark 6 = .ok (.aload_n 0, 1) := by decide +kernel
theorem dX8_pencilMark_7 : decode cX8_pencilMark 7 = .ok (.bipush 20, 2) := by decide +kernel
theorem dX8_pencilMark_9 : decode cX8_pencilMark 9 = .ok (.invokevirtual 222, 3) := by decide +kernel
theorem dX8_pencilMark_12 : decode cX8_pencilMark 12 = .ok (.iload_n 1, 1) := by decide +kernel
theorem dX8_pencilMark_13 : decode cX8_pencilMark 13 = .ok (.aload_n 0, 1) := by decide +kernel
theorem dX8_pencilMark_14 : decode cX8_pencilMark 14 = .ok (.iload_n 1, 1) := by decide +kernel
theorem dX8_pencilMark_15 : decode cX8_pencilMark 15 = .ok (.invokevirtual 228, 3) := by decide +kernel
theorem dX8_pencilMark_18 : decode cX8_pencilMark 18 = .ok (.isub, 1) := by decide +kernel
theorem dX8_pencilMark_19 : decode cX8_pencilMark 19 = .ok (.ireturn, 1) := by decide +kernel
theorem dX8_ask_0 : decode cX8_ask 0 = .ok (.aload_n 0, 1) := by decide +kernel
theorem dX8_ask_1 : decode cX8_ask 1 = .ok (.iload_n 1, 1) := by decide +kernel
theorem dX8_ask_2 : decode cX8_ask 2 = .ok (.invokevirtual 177, 3) := by decide +kernel
theorem dX8_ask_5 : decode cX8_ask 5 = .ok (.ifCond .eq 12, 3) := by decide +kernel
theorem dX8_ask_8 : decode cX8_ask 8 = .ok (.iload_n 2, 1) := by decide +kernel
theorem dX8_ask_9 : decode cX8_ask 9 = .ok (.iconst 0, 1) := by decide +kernel
theorem dX8_ask_10 : decode cX8_ask 10 = .ok (.iconst 1, 1) := by decide +kernel
theorem dX8_ask_11 : decode cX8_ask 11 = .ok (.invokestatic 59, 3) := by decide +kernel
theorem dX8_ask_14 : decode cX8_ask 14 = .ok (.ifCond .ne 6, 3) := by decide +kernel
theorem dX8_ask_17 : decode cX8_ask 17 = .ok (.ldc 67, 2) := by decide +kernel
theorem dX8_ask_19 : decode cX8_ask 19 = .ok (.ireturn, 1) := by decide +kernel
theorem dX8_ask_20 : decode cX8_ask 20 = .ok (.aload_n 0, 1) := by decide +kernel
theorem dX8_ask_21 : decode cX8_ask 21 = .ok (.iconst 0, 1) := by decide +kernel
theorem dX8_ask_22 : decode cX8_ask 22 = .ok (.putfield 219, 3) := by decide +kernel
theorem dX8_ask_25 : decode cX8_ask 25 = .ok (.aload_n 0, 1) := by decide +kernel
theorem dX8_ask_26 : decode cX8_ask 26 = .ok (.iload_n 1, 1) := by decide +kernel
theorem dX8_ask_27 : decode cX8_ask 27 = .ok (.invokevirtual 216, 3) := by decide +kernel
theorem dX8_ask_30 : decode cX8_ask 30 = .ok (.iconst 4, 1) := by decide +kernel
theorem dX8_ask_31 : decode cX8_ask 31 = .ok (.if_icmp .lt 7, 3) := by decide +kernel
theorem dX8_ask_34 : decode cX8_ask 34 = .ok (.iconst 1, 1) := by decide +kernel
theorem dX8_ask_35 : decode cX8_ask 35 = .ok (.goto 4, 3) := by decide +kernel
theorem dX8_ask_38 : decode cX8_ask 38 = .ok (.iconst 0, 1) := by decide +kernel
theorem dX8_ask_39 : decode cX8_ask 39 = .ok (.istore_n 3, 1) := by decide +kernel
theorem dX8_ask_40 : decode cX8_ask 40 = .ok (.iload_n 2, 1) := by decide +kernel
theorem dX8_ask_41 : decode cX8_ask 41 = .ok (.ifCond .ne 21, 3) := by decide +kernel
theorem dX8_ask_44 : decode cX8_ask 44 = .ok (.iload_n 3, 1) := by decide +kernel
theorem dX8_ask_45 : decode cX8_ask 45 = .ok (.ifCond .eq 11, 3) := by decide +kernel
theorem dX8_ask_48 : decode cX8_ask 48 = .ok (.aload_n 0, 1) := by decide +kernel
theorem dX8_ask_49 : decode cX8_ask 49 = .ok (.iload_n 1, 1) := by decide +kernel
theorem dX8_ask_50 : decode cX8_ask 50 = .ok (.invokevirtual 228, 3) := by decide +kernel
theorem dX8_ask_53 : decode cX8_ask 53 = .ok (.goto 8, 3) := by decide +kernel
theorem dX8_ask_56 : decode cX8_ask 56 = .ok (.aload_n 0, 1) := by decide +kernel
theorem dX8_ask_57 : decode cX8_ask 57 = .ok (.iload_n 1, 1) := by decide +kernel
theorem dX8_ask_58 : decode cX8_ask 58 = .ok (.invokevirtual 231, 3) := by decide +kernel
theorem dX8_ask_61 : decode cX8_ask 61 = .ok (.ireturn, 1) := by decide +kernel
theorem dX8_ask_62 : decode cX8_ask 62 = .ok (.iload_n 3, 1) := by decide +kernel
theorem dX8_ask_63 : decode cX8_ask 63 = .ok (.ifCond .eq 11, 3) := by decide +kernel
theorem dX8_ask_66 : decode cX8_ask 66 = .ok (.aload_n 0, 1) := by decide +kernel
theorem dX8_ask_67 : decode cX8_ask 67 = .ok (.iload_n 1, 1) := by decide +kernel
theorem dX8_ask_68 : decode cX8_ask 68 = .ok (.invokevirtual 234, 3) := by decide +kernel
theorem dX8_ask_71 : decode cX8_ask 71 = .ok (.goto 8, 3) := by decide +kernel
theorem dX8_ask_74 : decode cX8_ask 74 = .ok (.aload_n 0, 1) := by decide +kernel
theorem dX8_ask_75 : decode cX8_ask 75 = .ok (.iload_n 1, 1) := by decide +kernel
theorem dX8_ask_76 : decode cX8_ask 76 = .ok (.invokevirtual 225, 3) := by decide +kernel
theorem dX8_ask_79 : decode cX8_ask 79 = .ok (.ireturn, 1) := by decide +kernel
theorem dX8_trace_0 : decode cX8_trace 0 = .ok (.iload_n 1, 1) := by decide +kernel
theorem dX8_trace_1 : decode cX8_trace 1 = .ok (.iconst 0, 1) := by decide +kernel
theorem dX8_trace_2 : decode cX8_trace 2 = .ok (.aload_n 0, 1) := by decide +kernel
theorem dX8_trace_3 : decode cX8_trace 3 = .ok (.getfield 219, 3) := by decide +kernel
theorem dX8_trace_6 : decode cX8_trace 6 = .ok (.iconst 1, 1) := by decide +kernel
theorem dX8_trace_7 : decode cX8_trace 7 = .ok (.isub, 1) := by decide +kernel
theorem dX8_trace_8 : decode cX8_trace 8 = .ok (.invokestatic 59, 3) := by decide +kernel
theorem dX8_trace_11 : decode cX8_trace 11 = .ok (.ifCond .eq 12, 3) := by decide +kernel
theorem dX8_trace_14 : decode cX8_trace 14 = .ok (.aload_n 0, 1) := by decide +kernel
theorem dX8_trace_15 : decode cX8_trace 15 = .ok (.getfield 50, 3) := by decide +kernel
theorem dX8_trace_18 : decode cX8_trace 18 = .ok (.iload_n 1, 1) := by decide +kernel
theorem dX8_trace_19 : decode cX8_trace 19 = .ok (.iaload, 1) := by decide +kernel
theorem dX8_trace_20 : decode cX8_trace 20 = .ok (.goto 5, 3) := by decide +kernel
theorem dX8_trace_23 : decode cX8_trace 23 = .ok (.ldc 53, 2) := by decide +kernel
theorem dX8_trace_25 : decode cX8_trace 25 = .ok (.ireturn, 1) := by decide +kernel
theorem dX8_count_0 : decode cX8_count 0 = .ok (.iconst 0, 1) := by decide +kernel
theorem dX8_count_1 : decode cX8_count 1 = .ok (.istore_n 2, 1) := by decide +kernel
theorem dX8_count_2 : decode cX8_count 2 = .ok (.iload_n 1, 1) := by decide +kernel
theorem dX8_count_3 : decode cX8_count 3 = .ok (.tableswitch 124 0 7 #[45, 77, 84, 92, 99, 106, 114, 119], 45) := by decide +kernel
theorem dX8_count_48 : decode cX8_count 48 = .ok (.iconst 0, 1) := by decide +kernel
theorem dX8_count_49 : decode cX8_count 49 = .ok (.istore_n 3, 1) := by decide +kernel
theorem dX8_count_50 : decode cX8_count 50 = .ok (.iload_n 3, 1) := by decide +kernel
theorem dX8_count_51 : decode cX8_count 51 = .ok (.bipush 8, 2) := by decide +kernel
theorem dX8_count_53 : decode cX8_count 53 = .ok (.if_icmp .ge 25, 3) := by decide +kernel
theorem dX8_count_56 : decode cX8_count 56 = .ok (.iload_n 2, 1) := by decide +kernel
theorem dX8_count_57 : decode cX8_count 57 = .ok (.aload_n 0, 1) := by decide +kernel
theorem dX8_count_58 : decode cX8_count 58 = .ok (.iload_n 3, 1) := by decide +kernel
theorem dX8_count_59 : decode cX8_count 59 = .ok (.invokevirtual 75, 3) := by decide +kernel
theorem dX8_count_62 : decode cX8_count 62 = .ok (.ifCond .eq 7, 3) := by decide +kernel
theorem dX8_count_65 : decode cX8_count 65 = .ok (.iconst 0, 1) := by decide +kernel
theorem dX8_count_66 : decode cX8_count 66 = .ok (.goto 4, 3) := by decide +kernel
theorem dX8_count_69 : decode cX8_count 69 = .ok (.iconst 1, 1) := by decide +kernel
theorem dX8_count_70 : decode cX8_count 70 = .ok (.iadd, 1) := by decide +kernel
theorem dX8_count_71 : decode cX8_count 71 = .ok (.istore_n 2, 1) := by decide +kernel
theorem dX8_count_72 : decode cX8_count 72 = .ok (.iinc 3 1, 3) := by decide +kernel
theorem dX8_count_75 : decode cX8_count 75 = .ok (.goto (-25), 3) := by decide +kernel
theorem dX8_count_78 : decode cX8_count 78 = .ok (.iload_n 2, 1) := by decide +kernel
theorem dX8_count_79 : decode cX8_count 79 = .ok (.ireturn, 1) := by decide +kernel
theorem dX8_count_80 : decode cX8_count 80 = .ok (.aload_n 0, 1) := by decide +kernel
theorem dX8_count_81 : decode cX8_count 81 = .ok (.getfield 25, 3) := by decide +kernel
theorem dX8_count_84 : decode cX8_count 84 = .ok (.iconst 3, 1) := by decide +kernel
theorem dX8_count_85 : decode cX8_count 85 = .ok (.iaload, 1) := by decide +kernel
theorem dX8_count_86 : decode cX8_count 86 = .ok (.ireturn, 1) := by decide +kernel
theorem dX8_count_87 : decode cX8_count 87 = .ok (.aload_n 0, 1) := by decide +kernel
theorem dX8_count_88 : decode cX8_count 88 = .ok (.getfield 25, 3) := by decide +kernel
theorem dX8_count_91 : decode cX8_count 91 = .ok (.bipush 12, 2) := by decide +kernel
theorem dX8_count_93 : decode cX8_count 93 = .ok (.iaload, 1) := by decide +kernel
theorem dX8_count_94 : decode cX8_count 94 = .ok (.ireturn, 1) := by decide +kernel
theorem dX8_count_95 : decode cX8_count 95 = .ok (.aload_n 0, 1) := by decide +kernel
theorem dX8_count_96 : decode cX8_count 96 = .ok (.getfield 25, 3) := by decide +kernel
theorem dX8_count_99 : decode cX8_count 99 = .ok (.iconst 2, 1) := by decide +kernel
theorem dX8_count_100 : decode cX8_count 100 = .ok (.iaload, 1) := by decide +kernel
theorem dX8_count_101 : decode cX8_count 101 = .ok (.ireturn, 1) := by decide +kernel
theorem dX8_count_102 : decode cX8_count 102 = .ok (.aload_n 0, 1) := by decide +kernel
theorem dX8_count_103 : decode cX8_count 103 = .ok (.getfield 25, 3) := by decide +kernel
theorem dX8_count_106 : decode cX8_count 106 = .ok (.iconst 1, 1) := by decide +kernel
theorem dX8_count_107 : decode cX8_count 107 = .ok (.iaload, 1) := by decide +kernel
theorem dX8_count_108 : decode cX8_count 108 = .ok (.ireturn, 1) := by decide +kernel
theorem dX8_count_109 : decode cX8_count 109 = .ok (.aload_n 0, 1) := by decide +kernel
theorem dX8_count_110 : decode cX8_count 110 = .ok (.getfield 25, 3) := by decide +kernel
theorem dX8_count_113 : decode cX8_count 113 = .ok (.invokestatic 173, 3) := by decide +kernel
theorem dX8_count_116 : decode cX8_count 116 = .ok (.ireturn, 1) := by decide +kernel
theorem dX8_count_117 : decode cX8_count 117 = .ok (.aload_n 0, 1) := by decide +kernel
theorem dX8_count_118 : decode cX8_count 118 = .ok (.getfield 152, 3) := by decide +kernel
theorem dX8_count_121 : decode cX8_count 121 = .ok (.ireturn, 1) := by decide +kernel
theorem dX8_count_122 : decode cX8_count 122 = .ok (.aload_n 0, 1) := by decide +kernel
theorem dX8_count_123 : decode cX8_count 123 = .ok (.getfield 85, 3) := by decide +kernel
theorem dX8_count_126 : decode cX8_count 126 = .ok (.ireturn, 1) := by decide +kernel
theorem dX8_count_127 : decode cX8_count 127 = .ok (.ldc 67, 2) := by decide +kernel
theorem dX8_count_129 : decode cX8_count 129 = .ok (.ireturn, 1) := by decide +kernel
theorem dX8_status_0 : decode cX8_status 0 = .ok (.aload_n 0, 1) := by decide +kernel
theorem dX8_status_1 : decode cX8_status 1 = .ok (.getfield 54, 3) := by decide +kernel
theorem dX8_status_4 : decode cX8_status 4 = .ok (.ireturn, 1) := by decide +kernel
theorem dJ6_bitCount_0f7a4_0 : decode cJ6_bitCount_0f7a4 0 = .ok (.iload_n 0, 1) := by decide +kernel
theorem dJ6_bitCount_0f7a4_1 : decode cJ6_bitCount_0f7a4 1 = .ok (.iload_n 0, 1) := by decide +kernel
theorem dJ6_bitCount_0f7a4_2 : decode cJ6_bitCount_0f7a4 2 = .ok (.iconst 1, 1) := by decide +kernel
theorem dJ6_bitCount_0f7a4_3 : decode cJ6_bitCount_0f7a4 3 = .ok (.iushr, 1) := by decide +kernel
theorem dJ6_bitCount_0f7a4_4 : decode cJ6_bitCount_0f7a4 4 = .ok (.ldc_w 265, 3) := by decide +kernel
theorem dJ6_bitCount_0f7a4_7 : decode cJ6_bitCount_0f7a4 7 = .ok (.iand, 1) := by decide +kernel
theorem dJ6_bitCount_0f7a4_8 : decode cJ6_bitCount_0f7a4 8 = .ok (.isub, 1) := by decide +kernel
theorem dJ6_bitCount_0f7a4_9 : decode cJ6_bitCount_0f7a4 9 = .ok (.istore_n 0, 1) := by decide +kernel
theorem dJ6_bitCount_0f7a4_10 : decode cJ6_bitCount_0f7a4 10 = .ok (.iload_n 0, 1) := by decide +kernel
theorem dJ6_bitCount_0f7a4_11 : decode cJ6_bitCount_0f7a4 11 = .ok (.ldc_w 266, 3) := by decide +kernel
theorem dJ6_bitCount_0f7a4_14 : decode cJ6_bitCount_0f7a4 14 = .ok (.iand, 1) := by decide +kernel
theorem dJ6_bitCount_0f7a4_15 : decode cJ6_bitCount_0f7a4 15 = .ok (.iload_n 0, 1) := by decide +kernel
theorem dJ6_bitCount_0f7a4_16 : decode cJ6_bitCount_0f7a4 16 = .ok (.iconst 2, 1) := by decide +kernel
theorem dJ6_bitCount_0f7a4_17 : decode cJ6_bitCount_0f7a4 17 = .ok (.iushr, 1) := by decide +kernel
theorem dJ6_bitCount_0f7a4_18 : decode cJ6_bitCount_0f7a4 18 = .ok (.ldc_w 266, 3) := by decide +kernel
theorem dJ6_bitCount_0f7a4_21 : decode cJ6_bitCount_0f7a4 21 = .ok (.iand, 1) := by decide +kernel
theorem dJ6_bitCount_0f7a4_22 : decode cJ6_bitCount_0f7a4 22 = .ok (.iadd, 1) := by decide +kernel
theorem dJ6_bitCount_0f7a4_23 : decode cJ6_bitCount_0f7a4 23 = .ok (.istore_n 0, 1) := by decide +kernel
theorem dJ6_bitCount_0f7a4_24 : decode cJ6_bitCount_0f7a4 24 = .ok (.iload_n 0, 1) := by decide +kernel
theorem dJ6_bitCount_0f7a4_25 : decode cJ6_bitCount_0f7a4 25 = .ok (.iload_n 0, 1) := by decide +kernel
theorem dJ6_bitCount_0f7a4_26 : decode cJ6_bitCount_0f7a4 26 = .ok (.iconst 4, 1) := by decide +kernel
theorem dJ6_bitCount_0f7a4_27 : decode cJ6_bitCount_0f7a4 27 = .ok (.iushr, 1) := by decide +kernel
theorem dJ6_bitCount_0f7a4_28 : decode cJ6_bitCount_0f7a4 28 = .ok (.iadd, 1) := by decide +kernel
theorem dJ6_bitCount_0f7a4_29 : decode cJ6_bitCount_0f7a4 29 = .ok (.ldc_w 267, 3) := by decide +kernel
theorem dJ6_bitCount_0f7a4_32 : decode cJ6_bitCount_0f7a4 32 = .ok (.iand, 1) := by decide +kernel
theorem dJ6_bitCount_0f7a4_33 : decode cJ6_bitCount_0f7a4 33 = .ok (.istore_n 0, 1) := by decide +kernel
theorem dJ6_bitCount_0f7a4_34 : decode cJ6_bitCount_0f7a4 34 = .ok (.iload_n 0, 1) := by decide +kernel
theorem dJ6_bitCount_0f7a4_35 : decode cJ6_bitCount_0f7a4 35 = .ok (.iload_n 0, 1) := by decide +kernel
theorem dJ6_bitCount_0f7a4_36 : decode cJ6_bitCount_0f7a4 36 = .ok (.bipush 8, 2) := by decide +kernel
theorem dJ6_bitCount_0f7a4_38 : decode cJ6_bitCount_0f7a4 38 = .ok (.iushr, 1) := by decide +kernel
theorem dJ6_bitCount_0f7a4_39 : decode cJ6_bitCount_0f7a4 39 = .ok (.iadd, 1) := by decide +kernel
theorem dJ6_bitCount_0f7a4_40 : decode cJ6_bitCount_0f7a4 40 = .ok (.istore_n 0, 1) := by decide +kernel
theorem dJ6_bitCount_0f7a4_41 : decode cJ6_bitCount_0f7a4 41 = .ok (.iload_n 0, 1) := by decide +kernel
theorem dJ6_bitCount_0f7a4_42 : decode cJ6_bitCount_0f7a4 42 = .ok (.iload_n 0, 1) := by decide +kernel
theorem dJ6_bitCount_0f7a4_43 : decode cJ6_bitCount_0f7a4 43 = .ok (.bipush 16, 2) := by decide +kernel
theorem dJ6_bitCount_0f7a4_45 : decode cJ6_bitCount_0f7a4 45 = .ok (.iushr, 1) := by decide +kernel
theorem dJ6_bitCount_0f7a4_46 : decode cJ6_bitCount_0f7a4 46 = .ok (.iadd, 1) := by decide +kernel
theorem dJ6_bitCount_0f7a4_47 : decode cJ6_bitCount_0f7a4 47 = .ok (.istore_n 0, 1) := by decide +kernel
theorem dJ6_bitCount_0f7a4_48 : decode cJ6_bitCount_0f7a4 48 = .ok (.iload_n 0, 1) := by decide +kernel
theorem dJ6_bitCount_0f7a4_49 : decode cJ6_bitCount_0f7a4 49 = .ok (.bipush 63, 2) := by decide +kernel
theorem dJ6_bitCount_0f7a4_51 : decode cJ6_bitCount_0f7a4 51 = .ok (.iand, 1) := by decide +kernel
theorem dJ6_bitCount_0f7a4_52 : decode cJ6_bitCount_0f7a4 52 = .ok (.ireturn, 1) := by decide +kernel
theorem dJ9_max_7cf53_0 : decode cJ9_max_7cf53 0 = .ok (.iload_n 0, 1) := by decide +kernel
theorem dJ9_max_7cf53_1 : decode cJ9_max_7cf53 1 = .ok (.iload_n 1, 1) := by decide +kernel
theorem dJ9_max_7cf53_2 : decode cJ9_max_7cf53 2 = .ok (.if_icmp .lt 7, 3) := by decide +kernel
theorem dJ9_max_7cf53_5 : decode cJ9_max_7cf53 5 = .ok (.iload_n 0, 1) := by decide +kernel
theorem dJ9_max_7cf53_6 : decode cJ9_max_7cf53 6 = .ok (.goto 4, 3) := by decide +kernel
theorem dJ9_max_7cf53_9 : decode cJ9_max_7cf53 9 = .ok (.iload_n 1, 1) := by decide +kernel
theorem dJ9_max_7cf53_10 : decode cJ9_max_7cf53 10 = .ok (.ireturn, 1) := by decide +kernel
theorem dJ9_min_7cf53_0 : decode cJ9_min_7cf53 0 = .ok (.iload_n 0, 1) := by decide +kernel
theorem dJ9_min_7cf53_1 : decode cJ9_min_7cf53 1 = .ok (.iload_n 1, 1) := by decide +kernel
theorem dJ9_min_7cf53_2 : decode cJ9_min_7cf53 2 = .ok (.if_icmp .gt 7, 3) := by decide +kernel
theorem dJ9_min_7cf53_5 : decode cJ9_min_7cf53 5 = .ok (.iload_n 0, 1) := by decide +kernel
theorem dJ9_min_7cf53_6 : decode cJ9_min_7cf53 6 = .ok (.goto 4, 3) := by decide +kernel
theorem dJ9_min_7cf53_9 : decode cJ9_min_7cf53 9 = .ok (.iload_n 1, 1) := by decide +kernel
theorem dJ9_min_7cf53_10 : decode cJ9_min_7cf53 10 = .ok (.ireturn, 1) := by decide +kernel
theorem dL_law_0 : decode cL_law 0 = .ok (.new 7, 3) := by decide +kernel
theorem dL_law_3 : decode cL_law 3 = .ok (.dup, 1) := by decide +kernel
theorem dL_law_4 : decode cL_law 4 = .ok (.invokespecial 9, 3) := by decide +kernel
theorem dL_law_7 : decode cL_law 7 = .ok (.astore_n 1, 1) := by decide +kernel
theorem dL_law_8 : decode cL_law 8 = .ok (.new 10, 3) := by decide +kernel
theorem dL_law_11 : decode cL_law 11 = .ok (.dup, 1) := by decide +kernel
theorem dL_law_12 : decode cL_law 12 = .ok (.invokespecial 12, 3) := by decide +kernel
theorem dL_law_15 : decode cL_law 15 = .ok (.astore_n 2, 1) := by decide +kernel
theorem dL_law_16 : decode cL_law 16 = .ok (.iconst 0, 1) := by decide +kernel
theorem dL_law_17 : decode cL_law 17 = .ok (.istore_n 3, 1) := by decide +kernel
theorem dL_law_18 : decode cL_law 18 = .ok (.iload_n 3, 1) := by decide +kernel
theorem dL_law_19 : decode cL_law 19 = .ok (.aload_n 0, 1) := by decide +kernel
theorem dL_law_20 : decode cL_law 20 = .ok (.arraylength, 1) := by decide +kernel
theorem dL_law_21 : decode cL_law 21 = .ok (.bipush 6, 2) := by decide +kernel
theorem dL_law_23 : decode cL_law 23 = .ok (.isub, 1) := by decide +kernel
theorem dL_law_24 : decode cL_law 24 = .ok (.if_icmp .gt 1134, 3) := by decide +kernel
theorem dL_law_27 : decode cL_law 27 = .ok (.aload_n 0, 1) := by decide +kernel
theorem dL_law_28 : decode cL_law 28 = .ok (.iload_n 3, 1) := by decide +kernel
theorem dL_law_29 : decode cL_law 29 = .ok (.iaload, 1) := by decide +kernel
theorem dL_law_30 : decode cL_law 30 = .ok (.bipush 31, 2) := by decide +kernel
theorem dL_law_32 : decode cL_law 32 = .ok (.iand, 1) := by decide +kernel
theorem dL_law_33 : decode cL_law 33 = .ok (.tableswitch 1119 0 31 #[143, 186, 229, 292, 315, 338, 351, 364, 387, 420, 453, 486, 499, 532, 565, 598, 621, 644, 667, 700, 733, 766, 829, 882, 925, 948, 971, 994, 1027, 1060, 1083, 1106], 143) := by decide +kernel
theorem dL_law_176 : decode cL_law 176 = .ok (.aload_n 1, 1) := by decide +kernel
theorem dL_law_177 : decode cL_law 177 = .ok (.aload_n 0, 1) := by decide +kernel
theorem dL_law_178 : decode cL_law 178 = .ok (.iload_n 3, 1) := by decide +kernel
theorem dL_law_179 : decode cL_law 179 = .ok (.iconst 1, 1) := by decide +kernel
theorem dL_law_180 : decode cL_law 180 = .ok (.iadd, 1) := by decide +kernel
theorem dL_law_181 : decode cL_law 181 = .ok (.iaload, 1) := by decide +kernel
theorem dL_law_182 : decode cL_law 182 = .ok (.aload_n 0, 1) := by decide +kernel
theorem dL_law_183 : decode cL_law 183 = .ok (.iload_n 3, 1) := by decide +kernel
theorem dL_law_184 : decode cL_law 184 = .ok (.iconst 2, 1) := by decide +kernel
theorem dL_law_185 : decode cL_law 185 = .ok (.iadd, 1) := by decide +kernel
theorem dL_law_186 : decode cL_law 186 = .ok (.iaload, 1) := by decide +kernel
theorem dL_law_187 : decode cL_law 187 = .ok (.aload_n 0, 1) := by decide +kernel
theorem dL_law_188 : decode cL_law 188 = .ok (.iload_n 3, 1) := by decide +kernel
theorem dL_law_189 : decode cL_law 189 = .ok (.iconst 3, 1) := by decide +kernel
theorem dL_law_190 : decode cL_law 190 = .ok (.iadd, 1) := by decide +kernel
theorem dL_law_191 : decode cL_law 191 = .ok (.iaload, 1) := by decide +kernel
theorem dL_law_192 : decode cL_law 192 = .ok (.invokevirtual 13, 3) := by decide +kernel
theorem dL_law_195 : decode cL_law 195 = .ok (.aload_n 2, 1) := by decide +kernel
theorem dL_law_196 : decode cL_law 196 = .ok (.aload_n 0, 1) := by decide +kernel
theorem dL_law_197 : decode cL_law 197 = .ok (.iload_n 3, 1) := by decide +kernel
theorem dL_law_198 : decode cL_law 198 = .ok (.iconst 1, 1) := by decide +kernel
theorem dL_law_199 : decode cL_law 199 = .ok (.iadd, 1) := by decide +kernel
theorem dL_law_200 : decode cL_law 200 = .ok (.iaload, 1) := by decide +kernel
theorem dL_law_201 : decode cL_law 201 = .ok (.aload_n 0, 1) := by decide +kernel
theorem dL_law_202 : decode cL_law 202 = .ok (.iload_n 3, 1) := by decide +kernel
theorem dL_law_203 : decode cL_law 203 = .ok (.iconst 2, 1) := by decide +kernel
theorem dL_law_204 : decode cL_law 204 = .ok (.iadd, 1) := by decide +kernel
theorem dL_law_205 : decode cL_law 205 = .ok (.iaload, 1) := by decide +kernel
theorem dL_law_206 : decode cL_law 206 = .ok (.aload_n 0, 1) := by decide +kernel
theorem dL_law_207 : decode cL_law 207 = .ok (.iload_n 3, 1) := by decide +kernel
theorem dL_law_208 : decode cL_law 208 = .ok (.iconst 3, 1) := by decide +kernel
theorem dL_law_209 : decode cL_law 209 = .ok (.iadd, 1) := by decide +kernel
theorem dL_law_210 : decode cL_law 210 = .ok (.iaload, 1) := by decide +kernel
theorem dL_law_211 : decode cL_law 211 = .ok (.invokevirtual 17, 3) := by decide +kernel
theorem dL_law_214 : decode cL_law 214 = .ok (.if_icmp .eq 938, 3) := by decide +kernel
theorem dL_law_217 : decode cL_law 217 = .ok (.iconst 0, 1) := by decide +kernel
theorem dL_law_218 : decode cL_law 218 = .ok (.ireturn, 1) := by decide +kernel
theorem dL_law_219 : decode cL_law 219 = .ok (.aload_n 1, 1) := by decide +kernel
theorem dL_law_220 : decode cL_law 220 = .ok (.aload_n 0, 1) := by decide +kernel
theorem dL_law_221 : decode cL_law 221 = .ok (.iload_n 3, 1) := by decide +kernel
theorem dL_law_222 : decode cL_law 222 = .ok (.iconst 1, 1) := by decide +kernel
theorem dL_law_223 : decode cL_law 223 = .ok (.iadd, 1) := by decide +kernel
theorem dL_law_224 : decode cL_law 224 = .ok (.iaload, 1) := by decide +kernel
theorem dL_law_225 : decode cL_law 225 = .ok (.aload_n 0, 1) := by decide +kernel
theorem dL_law_226 : decode cL_law 226 = .ok (.iload_n 3, 1) := by decide +kernel
theorem dL_law_227 : decode cL_law 227 = .ok (.iconst 2, 1) := by decide +kernel
theorem dL_law_228 : decode cL_law 228 = .ok (.iadd, 1) := by decide +kernel
theorem dL_law_229 : decode cL_law 229 = .ok (.iaload, 1) := by decide +kernel
theorem dL_law_230 : decode cL_law 230 = .ok (.aload_n 0, 1) := by decide +kernel
theorem dL_law_231 : decode cL_law 231 = .ok (.iload_n 3, 1) := by decide +kernel
theorem dL_law_232 : decode cL_law 232 = .ok (.iconst 3, 1) := by decide +kernel
theorem dL_law_233 : decode cL_law 233 = .ok (.iadd, 1) := by decide +kernel
theorem dL_law_234 : decode cL_law 234 = .ok (.iaload, 1) := by decide +kernel
theorem dL_law_235 : decode cL_law 235 = .ok (.invokevirtual 18, 3) := by decide +kernel
theorem dL_law_238 : decode cL_law 238 = .ok (.aload_n 2, 1) := by decide +kernel
theorem dL_law_239 : decode cL_law 239 = .ok (.aload_n 0, 1) := by decide +kernel
theorem dL_law_240 : decode cL_law 240 = .ok (.iload_n 3, 1) := by decide +kernel
theorem dL_law_241 : decode cL_law 241 = .ok (.iconst 1, 1) := by decide +kernel
theorem dL_law_242 : decode cL_law 242 = .ok (.iadd, 1) := by decide +kernel
theorem dL_law_243 : decode cL_law 243 = .ok (.iaload, 1) := by decide +kernel
theorem dL_law_244 : decode cL_law 244 = .ok (.aload_n 0, 1) := by decide +kernel
theorem dL_law_245 : decode cL_law 245 = .ok (.iload_n 3, 1) := by decide +kernel
theorem dL_law_246 : decode cL_law 246 = .ok (.iconst 2, 1) := by decide +kernel
theorem dL_law_247 : decode cL_law 247 = .ok (.iadd, 1) := by decide +kernel
theorem dL_law_248 : decode cL_law 248 = .ok (.iaload, 1) := by decide +kernel
theorem dL_law_249 : decode cL_law 249 = .ok (.aload_n 0, 1) := by decide +kernel
theorem dL_law_250 : decode cL_law 250 = .ok (.iload_n 3, 1) := by decide +kernel
theorem dL_law_251 : decode cL_law 251 = .ok (.iconst 3, 1) := by decide +kernel
theorem dL_law_252 : decode cL_law 252 = .ok (.iadd, 1) := by decide +kernel
theorem dL_law_253 : decode cL_law 253 = .ok (.iaload, 1) := by decide +kernel
theorem dL_law_254 : decode cL_law 254 = .ok (.invokevirtual 21, 3) := by decide +kernel
theorem dL_law_257 : decode cL_law 257 = .ok (.if_icmp .eq 895, 3) := by decide +kernel
theorem dL_law_260 : decode cL_law 260 = .ok (.iconst 0, 1) := by decide +kernel
theorem dL_law_261 : decode cL_law 261 = .ok (.ireturn, 1) := by decide +kernel
theorem dL_law_262 : decode cL_law 262 = .ok (.aload_n 1, 1) := by decide +kernel
theorem dL_law_263 : decode cL_law 263 = .ok (.aload_n 0, 1) := by decide +kernel
theorem dL_law_264 : decode cL_law 264 = .ok (.iload_n 3, 1) := by decide +kernel
theorem dL_law_265 : decode cL_law 265 = .ok (.iconst 1, 1) := by decide +kernel
theorem dL_law_266 : decode cL_law 266 = .ok (.iadd, 1) := by decide +kernel
theorem dL_law_267 : decode cL_law 267 = .ok (.iaload, 1) := by decide +kernel
theorem dL_law_268 : decode cL_law 268 = .ok (.aload_n 0, 1) := by decide +kernel
theorem dL_law_269 : decode cL_law 269 = .ok (.iload_n 3, 1) := by decide +kernel
theorem dL_law_270 : decode cL_law 270 = .ok (.iconst 2, 1) := by decide +kernel
theorem dL_law_271 : decode cL_law 271 = .ok (.iadd, 1) := by decide +kernel
theorem dL_law_272 : decode cL_law 272 = .ok (.iaload, 1) := by decide +kernel
theorem dL_law_273 : decode cL_law 273 = .ok (.aload_n 0, 1) := by decide +kernel
theorem dL_law_274 : decode cL_law 274 = .ok (.iload_n 3, 1) := by decide +kernel
theorem dL_law_275 : decode cL_law 275 = .ok (.iconst 3, 1) := by decide +kernel
theorem dL_law_276 : decode cL_law 276 = .ok (.iadd, 1) := by decide +kernel
theorem dL_law_277 : decode cL_law 277 = .ok (.iaload, 1) := by decide +kernel
theorem dL_law_278 : decode cL_law 278 = .ok (.aload_n 0, 1) := by decide +kernel
theorem dL_law_279 : decode cL_law 279 = .ok (.iload_n 3, 1) := by decide +kernel
theorem dL_law_280 : decode cL_law 280 = .ok (.iconst 4, 1) := by decide +kernel
theorem dL_law_281 : decode cL_law 281 = .ok (.iadd, 1) := by decide +kernel
theorem dL_law_282 : decode cL_law 282 = .ok (.iaload, 1) := by decide +kernel
theorem dL_law_283 : decode cL_law 283 = .ok (.aload_n 0, 1) := by decide +kernel
theorem dL_law_284 : decode cL_law 284 = .ok (.iload_n 3, 1) := by decide +kernel
theorem dL_law_285 : decode cL_law 285 = .ok (.iconst 5, 1) := by decide +kernel
theorem dL_law_286 : decode cL_law 286 = .ok (.iadd, 1) := by decide +kernel
theorem dL_law_287 : decode cL_law 287 = .ok (.iaload, 1) := by decide +kernel
theorem dL_law_288 : decode cL_law 288 = .ok (.invokevirtual 22, 3) := by decide +kernel
theorem dL_law_291 : decode cL_law 291 = .ok (.aload_n 2, 1) := by decide +kernel
theorem dL_law_292 : decode cL_law 292 = .ok (.aload_n 0, 1) := by decide +kernel
theorem dL_law_293 : decode cL_law 293 = .ok (.iload_n 3, 1) := by decide +kernel
theorem dL_law_294 : decode cL_law 294 = .ok (.iconst 1, 1) := by decide +kernel
theorem dL_law_295 : decode cL_law 295 = .ok (.iadd, 1) := by decide +kernel
theorem dL_law_296 : decode cL_law 296 = .ok (.iaload, 1) := by decide +kernel
theorem dL_law_297 : decode cL_law 297 = .ok (.aload_n 0, 1) := by decide +kernel
theorem dL_law_298 : decode cL_law 298 = .ok (.iload_n 3, 1) := by decide +kernel
theorem dL_law_299 : decode cL_law 299 = .ok (.iconst 2, 1) := by decide +kernel
theorem dL_law_300 : decode cL_law 300 = .ok (.iadd, 1) := by decide +kernel
theorem dL_law_301 : decode cL_law 301 = .ok (.iaload, 1) := by decide +kernel
theorem dL_law_302 : decode cL_law 302 = .ok (.aload_n 0, 1) := by decide +kernel
theorem dL_law_303 : decode cL_law 303 = .ok (.iload_n 3, 1) := by decide +kernel
theorem dL_law_304 : decode cL_law 304 = .ok (.iconst 3, 1) := by decide +kernel
theorem dL_law_305 : decode cL_law 305 = .ok (.iadd, 1) := by decide +kernel
theorem dL_law_306 : decode cL_law 306 = .ok (.iaload, 1) := by decide +kernel
theorem dL_law_307 : decode cL_law 307 = .ok (.aload_n 0, 1) := by decide +kernel
theorem dL_law_308 : decode cL_law 308 = .ok (.iload_n 3, 1) := by decide +kernel
theorem dL_law_309 : decode cL_law 309 = .ok (.iconst 4, 1) := by decide +kernel
theorem dL_law_310 : decode cL_law 310 = .ok (.iadd, 1) := by decide +kernel
theorem dL_law_311 : decode cL_law 311 = .ok (.iaload, 1) := by decide +kernel
theorem dL_law_312 : decode cL_law 312 = .ok (.aload_n 0, 1) := by decide +kernel
theorem dL_law_313 : decode cL_law 313 = .ok (.iload_n 3, 1) := by decide +kernel
theorem dL_law_314 : decode cL_law 314 = .ok (.iconst 5, 1) := by decide +kernel
theorem dL_law_315 : decode cL_law 315 = .ok (.iadd, 1) := by decide +kernel
theorem dL_law_316 : decode cL_law 316 = .ok (.iaload, 1) := by decide +kernel
theorem dL_law_317 : decode cL_law 317 = .ok (.invokevirtual 26, 3) := by decide +kernel
theorem dL_law_320 : decode cL_law 320 = .ok (.if_icmp .eq 832, 3) := by decide +kernel
theorem dL_law_323 : decode cL_law 323 = .ok (.iconst 0, 1) := by decide +kernel
theorem dL_law_324 : decode cL_law 324 = .ok (.ireturn, 1) := by decide +kernel
theorem dL_law_325 : decode cL_law 325 = .ok (.aload_n 1, 1) := by decide +kernel
theorem dL_law_326 : decode cL_law 326 = .ok (.aload_n 0, 1) := by decide +kernel
theorem dL_law_327 : decode cL_law 327 = .ok (.iload_n 3, 1) := by decide +kernel
theorem dL_law_328 : decode cL_law 328 = .ok (.iconst 1, 1) := by decide +kernel
theorem dL_law_329 : decode cL_law 329 = .ok (.iadd, 1) := by decide +kernel
theorem dL_law_330 : decode cL_law 330 = .ok (.iaload, 1) := by decide +kernel
theorem dL_law_331 : decode cL_law 331 = .ok (.invokevirtual 27, 3) := by decide +kernel
theorem dL_law_334 : decode cL_law 334 = .ok (.aload_n 2, 1) := by decide +kernel
theorem dL_law_335 : decode cL_law 335 = .ok (.aload_n 0, 1) := by decide +kernel
theorem dL_law_336 : decode cL_law 336 = .ok (.iload_n 3, 1) := by decide +kernel
theorem dL_law_337 : decode cL_law 337 = .ok (.iconst 1, 1) := by decide +kernel
theorem dL_law_338 : decode cL_law 338 = .ok (.iadd, 1) := by decide +kernel
theorem dL_law_339 : decode cL_law 339 = .ok (.iaload, 1) := by decide +kernel
theorem dL_law_340 : decode cL_law 340 = .ok (.invokevirtual 31, 3) := by decide +kernel
theorem dL_law_343 : decode cL_law 343 = .ok (.if_icmp .eq 809, 3) := by decide +kernel
theorem dL_law_346 : decode cL_law 346 = .ok (.iconst 0, 1) := by decide +kernel
theorem dL_law_347 : decode cL_law 347 = .ok (.ireturn, 1) := by decide +kernel
theorem dL_law_348 : decode cL_law 348 = .ok (.aload_n 1, 1) := by decide +kernel
theorem dL_law_349 : decode cL_law 349 = .ok (.aload_n 0, 1) := by decide +kernel
theorem dL_law_350 : decode cL_law 350 = .ok (.iload_n 3, 1) := by decide +kernel
theorem dL_law_351 : decode cL_law 351 = .ok (.iconst 1, 1) := by decide +kernel
theorem dL_law_352 : decode cL_law 352 = .ok (.iadd, 1) := by decide +kernel
theorem dL_law_353 : decode cL_law 353 = .ok (.iaload, 1) := by decide +kernel
theorem dL_law_354 : decode cL_law 354 = .ok (.invokevirtual 32, 3) := by decide +kernel
theorem dL_law_357 : decode cL_law 357 = .ok (.aload_n 2, 1) := by decide +kernel
theorem dL_law_358 : decode cL_law 358 = .ok (.aload_n 0, 1) := by decide +kernel
theorem dL_law_359 : decode cL_law 359 = .ok (.iload_n 3, 1) := by decide +kernel
theorem dL_law_360 : decode cL_law 360 = .ok (.iconst 1, 1) := by decide +kernel
theorem dL_law_361 : decode cL_law 361 = .ok (.iadd, 1) := by decide +kernel
theorem dL_law_362 : decode cL_law 362 = .ok (.iaload, 1) := by decide +kernel
theorem dL_law_363 : decode cL_law 363 = .ok (.invokevirtual 35, 3) := by decide +kernel
theorem dL_law_366 : decode cL_law 366 = .ok (.if_icmp .eq 786, 3) := by decide +kernel
theorem dL_law_369 : decode cL_law 369 = .ok (.iconst 0, 1) := by decide +kernel
theorem dL_law_370 : decode cL_law 370 = .ok (.ireturn, 1) := by decide +kernel
theorem dL_law_371 : decode cL_law 371 = .ok (.aload_n 1, 1) := by decide +kernel
theorem dL_law_372 : decode cL_law 372 = .ok (.invokevirtual 36, 3) := by decide +kernel
theorem dL_law_375 : decode cL_law 375 = .ok (.aload_n 2, 1) := by decide +kernel
theorem dL_law_376 : decode cL_law 376 = .ok (.invokevirtual 40, 3) := by decide +kernel
theorem dL_law_379 : decode cL_law 379 = .ok (.if_icmp .eq 773, 3) := by decide +kernel
theorem dL_law_382 : decode cL_law 382 = .ok (.iconst 0, 1) := by decide +kernel
theorem dL_law_383 : decode cL_law 383 = .ok (.ireturn, 1) := by decide +kernel
theorem dL_law_384 : decode cL_law 384 = .ok (.aload_n 1, 1) := by decide +kernel
theorem dL_law_385 : decode cL_law 385 = .ok (.invokevirtual 41, 3) := by decide +kernel
theorem dL_law_388 : decode cL_law 388 = .ok (.aload_n 2, 1) := by decide +kernel
theorem dL_law_389 : decode cL_law 389 = .ok (.invokevirtual 44, 3) := by decide +kernel
theorem dL_law_392 : decode cL_law 392 = .ok (.if_icmp .eq 760, 3) := by decide +kernel
theorem dL_law_395 : decode cL_law 395 = .ok (.iconst 0, 1) := by decide +kernel
theorem dL_law_396 : decode cL_law 396 = .ok (.ireturn, 1) := by decide +kernel
theorem dL_law_397 : decode cL_law 397 = .ok (.aload_n 1, 1) := by decide +kernel
theorem dL_law_398 : decode cL_law 398 = .ok (.aload_n 0, 1) := by decide +kernel
theorem dL_law_399 : decode cL_law 399 = .ok (.iload_n 3, 1) := by decide +kernel
theorem dL_law_400 : decode cL_law 400 = .ok (.iconst 1, 1) := by decide +kernel
theorem dL_law_401 : decode cL_law 401 = .ok (.iadd, 1) := by decide +kernel
theorem dL_law_402 : decode cL_law 402 = .ok (.iaload, 1) := by decide +kernel
theorem dL_law_403 : decode cL_law 403 = .ok (.invokevirtual 45, 3) := by decide +kernel
theorem dL_law_406 : decode cL_law 406 = .ok (.aload_n 2, 1) := by decide +kernel
theorem dL_law_407 : decode cL_law 407 = .ok (.aload_n 0, 1) := by decide +kernel
theorem dL_law_408 : decode cL_law 408 = .ok (.iload_n 3, 1) := by decide +kernel
theorem dL_law_409 : decode cL_law 409 = .ok (.iconst 1, 1) := by decide +kernel
theorem dL_law_410 : decode cL_law 410 = .ok (.iadd, 1) := by decide +kernel
theorem dL_law_411 : decode cL_law 411 = .ok (.iaload, 1) := by decide +kernel
theorem dL_law_412 : decode cL_law 412 = .ok (.invokevirtual 48, 3) := by decide +kernel
theorem dL_law_415 : decode cL_law 415 = .ok (.if_icmp .eq 737, 3) := by decide +kernel
theorem dL_law_418 : decode cL_law 418 = .ok (.iconst 0, 1) := by decide +kernel
theorem dL_law_419 : decode cL_law 419 = .ok (.ireturn, 1) := by decide +kernel
theorem dL_law_420 : decode cL_law 420 = .ok (.aload_n 1, 1) := by decide +kernel
theorem dL_law_421 : decode cL_law 421 = .ok (.aload_n 0, 1) := by decide +kernel
theorem dL_law_422 : decode cL_law 422 = .ok (.iload_n 3, 1) := by decide +kernel
theorem dL_law_423 : decode cL_law 423 = .ok (.iconst 1, 1) := by decide +kernel
theorem dL_law_424 : decode cL_law 424 = .ok (.iadd, 1) := by decide +kernel
theorem dL_law_425 : decode cL_law 425 = .ok (.iaload, 1) := by decide +kernel
theorem dL_law_426 : decode cL_law 426 = .ok (.aload_n 0, 1) := by decide +kernel
theorem dL_law_427 : decode cL_law 427 = .ok (.iload_n 3, 1) := by decide +kernel
theorem dL_law_428 : decode cL_law 428 = .ok (.iconst 2, 1) := by decide +kernel
theorem dL_law_429 : decode cL_law 429 = .ok (.iadd, 1) := by decide +kernel
theorem dL_law_430 : decode cL_law 430 = .ok (.iaload, 1) := by decide +kernel
theorem dL_law_431 : decode cL_law 431 = .ok (.invokevirtual 49, 3) := by decide +kernel
theorem dL_law_434 : decode cL_law 434 = .ok (.aload_n 2, 1) := by decide +kernel
theorem dL_law_435 : decode cL_law 435 = .ok (.aload_n 0, 1) := by decide +kernel
theorem dL_law_436 : decode cL_law 436 = .ok (.iload_n 3, 1) := by decide +kernel
theorem dL_law_437 : decode cL_law 437 = .ok (.iconst 1, 1) := by decide +kernel
theorem dL_law_438 : decode cL_law 438 = .ok (.iadd, 1) := by decide +kernel
theorem dL_law_439 : decode cL_law 439 = .ok (.iaload, 1) := by decide +kernel
theorem dL_law_440 : decode cL_law 440 = .ok (.aload_n 0, 1) := by decide +kernel
theorem dL_law_441 : decode cL_law 441 = .ok (.iload_n 3, 1) := by decide +kernel
theorem dL_law_442 : decode cL_law 442 = .ok (.iconst 2, 1) := by decide +kernel
theorem dL_law_443 : decode cL_law 443 = .ok (.iadd, 1) := by decide +kernel
theorem dL_law_444 : decode cL_law 444 = .ok (.iaload, 1) := by decide +kernel
theorem dL_law_445 : decode cL_law 445 = .ok (.invokevirtual 53, 3) := by decide +kernel
theorem dL_law_448 : decode cL_law 448 = .ok (.if_icmp .eq 704, 3) := by decide +kernel
theorem dL_law_451 : decode cL_law 451 = .ok (.iconst 0, 1) := by decide +kernel
theorem dL_law_452 : decode cL_law 452 = .ok (.ireturn, 1) := by decide +kernel
theorem dL_law_453 : decode cL_law 453 = .ok (.aload_n 1, 1) := by decide +kernel
theorem dL_law_454 : decode cL_law 454 = .ok (.aload_n 0, 1) := by decide +kernel
theorem dL_law_455 : decode cL_law 455 = .ok (.iload_n 3, 1) := by decide +kernel
theorem dL_law_456 : decode cL_law 456 = .ok (.iconst 1, 1) := by decide +kernel
theorem dL_law_457 : decode cL_law 457 = .ok (.iadd, 1) := by decide +kernel
theorem dL_law_458 : decode cL_law 458 = .ok (.iaload, 1) := by decide +kernel
theorem dL_law_459 : decode cL_law 459 = .ok (.aload_n 0, 1) := by decide +kernel
theorem dL_law_460 : decode cL_law 460 = .ok (.iload_n 3, 1) := by decide +kernel
theorem dL_law_461 : decode cL_law 461 = .ok (.iconst 2, 1) := by decide +kernel
theorem dL_law_462 : decode cL_law 462 = .ok (.iadd, 1) := by decide +kernel
theorem dL_law_463 : decode cL_law 463 = .ok (.iaload, 1) := by decide +kernel
theorem dL_law_464 : decode cL_law 464 = .ok (.invokevirtual 54, 3) := by decide +kernel
theorem dL_law_467 : decode cL_law 467 = .ok (.aload_n 2, 1) := by decide +kernel
theorem dL_law_468 : decode cL_law 468 = .ok (.aload_n 0, 1) := by decide +kernel
theorem dL_law_469 : decode cL_law 469 = .ok (.iload_n 3, 1) := by decide +kernel
theorem dL_law_470 : decode cL_law 470 = .ok (.iconst 1, 1) := by decide +kernel
theorem dL_law_471 : decode cL_law 471 = .ok (.iadd, 1) := by decide +kernel
theorem dL_law_472 : decode cL_law 472 = .ok (.iaload, 1) := by decide +kernel
theorem dL_law_473 : decode cL_law 473 = .ok (.aload_n 0, 1) := by decide +kernel
theorem dL_law_474 : decode cL_law 474 = .ok (.iload_n 3, 1) := by decide +kernel
theorem dL_law_475 : decode cL_law 475 = .ok (.iconst 2, 1) := by decide +kernel
theorem dL_law_476 : decode cL_law 476 = .ok (.iadd, 1) := by decide +kernel
theorem dL_law_477 : decode cL_law 477 = .ok (.iaload, 1) := by decide +kernel
theorem dL_law_478 : decode cL_law 478 = .ok (.invokevirtual 57, 3) := by decide +kernel
theorem dL_law_481 : decode cL_law 481 = .ok (.if_icmp .eq 671, 3) := by decide +kernel
theorem dL_law_484 : decode cL_law 484 = .ok (.iconst 0, 1) := by decide +kernel
theorem dL_law_485 : decode cL_law 485 = .ok (.ireturn, 1) := by decide +kernel
theorem dL_law_486 : decode cL_law 486 = .ok (.aload_n 1, 1) := by decide +kernel
theorem dL_law_487 : decode cL_law 487 = .ok (.aload_n 0, 1) := by decide +kernel
theorem dL_law_488 : decode cL_law 488 = .ok (.iload_n 3, 1) := by decide +kernel
theorem dL_law_489 : decode cL_law 489 = .ok (.iconst 1, 1) := by decide +kernel
theorem dL_law_490 : decode cL_law 490 = .ok (.iadd, 1) := by decide +kernel
theorem dL_law_491 : decode cL_law 491 = .ok (.iaload, 1) := by decide +kernel
theorem dL_law_492 : decode cL_law 492 = .ok (.aload_n 0, 1) := by decide +kernel
theorem dL_law_493 : decode cL_law 493 = .ok (.iload_n 3, 1) := by decide +kernel
theorem dL_law_494 : decode cL_law 494 = .ok (.iconst 2, 1) := by decide +kernel
theorem dL_law_495 : decode cL_law 495 = .ok (.iadd, 1) := by decide +kernel
theorem dL_law_496 : decode cL_law 496 = .ok (.iaload, 1) := by decide +kernel
theorem dL_law_497 : decode cL_law 497 = .ok (.invokevirtual 58, 3) := by decide +kernel
theorem dL_law_500 : decode cL_law 500 = .ok (.aload_n 2, 1) := by decide +kernel
theorem dL_law_501 : decode cL_law 501 = .ok (.aload_n 0, 1) := by decide +kernel
theorem dL_law_502 : decode cL_law 502 = .ok (.iload_n 3, 1) := by decide +kernel
theorem dL_law_503 : decode cL_law 503 = .ok (.iconst 1, 1) := by decide +kernel
theorem dL_law_504 : decode cL_law 504 = .ok (.iadd, 1) := by decide +kernel
theorem dL_law_505 : decode cL_law 505 = .ok (.iaload, 1) := by decide +kernel
theorem dL_law_506 : decode cL_law 506 = .ok (.aload_n 0, 1) := by decide +kernel
theorem dL_law_507 : decode cL_law 507 = .ok (.iload_n 3, 1) := by decide +kernel
theorem dL_law_508 : decode cL_law 508 = .ok (.iconst 2, 1) := by decide +kernel
theorem dL_law_509 : decode cL_law 509 = .ok (.iadd, 1) := by decide +kernel
theorem dL_law_510 : decode cL_law 510 = .ok (.iaload, 1) := by decide +kernel
theorem dL_law_511 : decode cL_law 511 = .ok (.invokevirtual 61, 3) := by decide +kernel
theorem dL_law_514 : decode cL_law 514 = .ok (.if_icmp .eq 638, 3) := by decide +kernel
theorem dL_law_517 : decode cL_law 517 = .ok (.iconst 0, 1) := by decide +kernel
theorem dL_law_518 : decode cL_law 518 = .ok (.ireturn, 1) := by decide +kernel
theorem dL_law_519 : decode cL_law 519 = .ok (.aload_n 1, 1) := by decide +kernel
theorem dL_law_520 : decode cL_law 520 = .ok (.invokevirtual 62, 3) := by decide +kernel
theorem dL_law_523 : decode cL_law 523 = .ok (.aload_n 2, 1) := by decide +kernel
theorem dL_law_524 : decode cL_law 524 = .ok (.invokevirtual 65, 3) := by decide +kernel
theorem dL_law_527 : decode cL_law 527 = .ok (.if_icmp .eq 625, 3) := by decide +kernel
theorem dL_law_530 : decode cL_law 530 = .ok (.iconst 0, 1) := by decide +kernel
theorem dL_law_531 : decode cL_law 531 = .ok (.ireturn, 1) := by decide +kernel
theorem dL_law_532 : decode cL_law 532 = .ok (.aload_n 1, 1) := by decide +kernel
theorem dL_law_533 : decode cL_law 533 = .ok (.aload_n 0, 1) := by decide +kernel
theorem dL_law_534 : decode cL_law 534 = .ok (.iload_n 3, 1) := by decide +kernel
theorem dL_law_535 : decode cL_law 535 = .ok (.iconst 1, 1) := by decide +kernel
theorem dL_law_536 : decode cL_law 536 = .ok (.iadd, 1) := by decide +kernel
theorem dL_law_537 : decode cL_law 537 = .ok (.iaload, 1) := by decide +kernel
theorem dL_law_538 : decode cL_law 538 = .ok (.aload_n 0, 1) := by decide +kernel
theorem dL_law_539 : decode cL_law 539 = .ok (.iload_n 3, 1) := by decide +kernel
theorem dL_law_540 : decode cL_law 540 = .ok (.iconst 2, 1) := by decide +kernel
theorem dL_law_541 : decode cL_law 541 = .ok (.iadd, 1) := by decide +kernel
theorem dL_law_542 : decode cL_law 542 = .ok (.iaload, 1) := by decide +kernel
theorem dL_law_543 : decode cL_law 543 = .ok (.invokevirtual 66, 3) := by decide +kernel
theorem dL_law_546 : decode cL_law 546 = .ok (.aload_n 2, 1) := by decide +kernel
theorem dL_law_547 : decode cL_law 547 = .ok (.aload_n 0, 1) := by decide +kernel
theorem dL_law_548 : decode cL_law 548 = .ok (.iload_n 3, 1) := by decide +kernel
theorem dL_law_549 : decode cL_law 549 = .ok (.iconst 1, 1) := by decide +kernel
theorem dL_law_550 : decode cL_law 550 = .ok (.iadd, 1) := by decide +kernel
theorem dL_law_551 : decode cL_law 551 = .ok (.iaload, 1) := by decide +kernel
theorem dL_law_552 : decode cL_law 552 = .ok (.aload_n 0, 1) := by decide +kernel
theorem dL_law_553 : decode cL_law 553 = .ok (.iload_n 3, 1) := by decide +kernel
theorem dL_law_554 : decode cL_law 554 = .ok (.iconst 2, 1) := by decide +kernel
theorem dL_law_555 : decode cL_law 555 = .ok (.iadd, 1) := by decide +kernel
theorem dL_law_556 : decode cL_law 556 = .ok (.iaload, 1) := by decide +kernel
theorem dL_law_557 : decode cL_law 557 = .ok (.invokevirtual 69, 3) := by decide +kernel
theorem dL_law_560 : decode cL_law 560 = .ok (.if_icmp .eq 592, 3) := by decide +kernel
theorem dL_law_563 : decode cL_law 563 = .ok (.iconst 0, 1) := by decide +kernel
theorem dL_law_564 : decode cL_law 564 = .ok (.ireturn, 1) := by decide +kernel
theorem dL_law_565 : decode cL_law 565 = .ok (.aload_n 1, 1) := by decide +kernel
theorem dL_law_566 : decode cL_law 566 = .ok (.aload_n 0, 1) := by decide +kernel
theorem dL_law_567 : decode cL_law 567 = .ok (.iload_n 3, 1) := by decide +kernel
theorem dL_law_568 : decode cL_law 568 = .ok (.iconst 1, 1) := by decide +kernel
theorem dL_law_569 : decode cL_law 569 = .ok (.iadd, 1) := by decide +kernel
theorem dL_law_570 : decode cL_law 570 = .ok (.iaload, 1) := by decide +kernel
theorem dL_law_571 : decode cL_law 571 = .ok (.aload_n 0, 1) := by decide +kernel
theorem dL_law_572 : decode cL_law 572 = .ok (.iload_n 3, 1) := by decide +kernel
theorem dL_law_573 : decode cL_law 573 = .ok (.iconst 2, 1) := by decide +kernel
theorem dL_law_574 : decode cL_law 574 = .ok (.iadd, 1) := by decide +kernel
theorem dL_law_575 : decode cL_law 575 = .ok (.iaload, 1) := by decide +kernel
theorem dL_law_576 : decode cL_law 576 = .ok (.invokevirtual 70, 3) := by decide +kernel
theorem dL_law_579 : decode cL_law 579 = .ok (.aload_n 2, 1) := by decide +kernel
theorem dL_law_580 : decode cL_law 580 = .ok (.aload_n 0, 1) := by decide +kernel
theorem dL_law_581 : decode cL_law 581 = .ok (.iload_n 3, 1) := by decide +kernel
theorem dL_law_582 : decode cL_law 582 = .ok (.iconst 1, 1) := by decide +kernel
theorem dL_law_583 : decode cL_law 583 = .ok (.iadd, 1) := by decide +kernel
theorem dL_law_584 : decode cL_law 584 = .ok (.iaload, 1) := by decide +kernel
theorem dL_law_585 : decode cL_law 585 = .ok (.aload_n 0, 1) := by decide +kernel
theorem dL_law_586 : decode cL_law 586 = .ok (.iload_n 3, 1) := by decide +kernel
theorem dL_law_587 : decode cL_law 587 = .ok (.iconst 2, 1) := by decide +kernel
theorem dL_law_588 : decode cL_law 588 = .ok (.iadd, 1) := by decide +kernel
theorem dL_law_589 : decode cL_law 589 = .ok (.iaload, 1) := by decide +kernel
theorem dL_law_590 : decode cL_law 590 = .ok (.invokevirtual 73, 3) := by decide +kernel
theorem dL_law_593 : decode cL_law 593 = .ok (.if_icmp .eq 559, 3) := by decide +kernel
theorem dL_law_596 : decode cL_law 596 = .ok (.iconst 0, 1) := by decide +kernel
theorem dL_law_597 : decode cL_law 597 = .ok (.ireturn, 1) := by decide +kernel
theorem dL_law_598 : decode cL_law 598 = .ok (.aload_n 1, 1) := by decide +kernel
theorem dL_law_599 : decode cL_law 599 = .ok (.aload_n 0, 1) := by decide +kernel
theorem dL_law_600 : decode cL_law 600 = .ok (.iload_n 3, 1) := by decide +kernel
theorem dL_law_601 : decode cL_law 601 = .ok (.iconst 1, 1) := by decide +kernel
theorem dL_law_602 : decode cL_law 602 = .ok (.iadd, 1) := by decide +kernel
theorem dL_law_603 : decode cL_law 603 = .ok (.iaload, 1) := by decide +kernel
theorem dL_law_604 : decode cL_law 604 = .ok (.aload_n 0, 1) := by decide +kernel
theorem dL_law_605 : decode cL_law 605 = .ok (.iload_n 3, 1) := by decide +kernel
theorem dL_law_606 : decode cL_law 606 = .ok (.iconst 2, 1) := by decide +kernel
theorem dL_law_607 : decode cL_law 607 = .ok (.iadd, 1) := by decide +kernel
theorem dL_law_608 : decode cL_law 608 = .ok (.iaload, 1) := by decide +kernel
theorem dL_law_609 : decode cL_law 609 = .ok (.invokevirtual 74, 3) := by decide +kernel
theorem dL_law_612 : decode cL_law 612 = .ok (.aload_n 2, 1) := by decide +kernel
theorem dL_law_613 : decode cL_law 613 = .ok (.aload_n 0, 1) := by decide +kernel
theorem dL_law_614 : decode cL_law 614 = .ok (.iload_n 3, 1) := by decide +kernel
theorem dL_law_615 : decode cL_law 615 = .ok (.iconst 1, 1) := by decide +kernel
theorem dL_law_616 : decode cL_law 616 = .ok (.iadd, 1) := by decide +kernel
theorem dL_law_617 : decode cL_law 617 = .ok (.iaload, 1) := by decide +kernel
theorem dL_law_618 : decode cL_law 618 = .ok (.aload_n 0, 1) := by decide +kernel
theorem dL_law_619 : decode cL_law 619 = .ok (.iload_n 3, 1) := by decide +kernel
theorem dL_law_620 : decode cL_law 620 = .ok (.iconst 2, 1) := by decide +kernel
theorem dL_law_621 : decode cL_law 621 = .ok (.iadd, 1) := by decide +kernel
theorem dL_law_622 : decode cL_law 622 = .ok (.iaload, 1) := by decide +kernel
theorem dL_law_623 : decode cL_law 623 = .ok (.invokevirtual 77, 3) := by decide +kernel
theorem dL_law_626 : decode cL_law 626 = .ok (.if_icmp .eq 526, 3) := by decide +kernel
theorem dL_law_629 : decode cL_law 629 = .ok (.iconst 0, 1) := by decide +kernel
theorem dL_law_630 : decode cL_law 630 = .ok (.ireturn, 1) := by decide +kernel
theorem dL_law_631 : decode cL_law 631 = .ok (.aload_n 1, 1) := by decide +kernel
theorem dL_law_632 : decode cL_law 632 = .ok (.aload_n 0, 1) := by decide +kernel
theorem dL_law_633 : decode cL_law 633 = .ok (.iload_n 3, 1) := by decide +kernel
theorem dL_law_634 : decode cL_law 634 = .ok (.iconst 1, 1) := by decide +kernel
theorem dL_law_635 : decode cL_law 635 = .ok (.iadd, 1) := by decide +kernel
theorem dL_law_636 : decode cL_law 636 = .ok (.iaload, 1) := by decide +kernel
theorem dL_law_637 : decode cL_law 637 = .ok (.invokevirtual 78, 3) := by decide +kernel
theorem dL_law_640 : decode cL_law 640 = .ok (.aload_n 2, 1) := by decide +kernel
theorem dL_law_641 : decode cL_law 641 = .ok (.aload_n 0, 1) := by decide +kernel
theorem dL_law_642 : decode cL_law 642 = .ok (.iload_n 3, 1) := by decide +kernel
theorem dL_law_643 : decode cL_law 643 = .ok (.iconst 1, 1) := by decide +kernel
theorem dL_law_644 : decode cL_law 644 = .ok (.iadd, 1) := by decide +kernel
theorem dL_law_645 : decode cL_law 645 = .ok (.iaload, 1) := by decide +kernel
theorem dL_law_646 : decode cL_law 646 = .ok (.invokevirtual 81, 3) := by decide +kernel
theorem dL_law_649 : decode cL_law 649 = .ok (.if_icmp .eq 503, 3) := by decide +kernel
theorem dL_law_652 : decode cL_law 652 = .ok (.iconst 0, 1) := by decide +kernel
theorem dL_law_653 : decode cL_law 653 = .ok (.ireturn, 1) := by decide +kernel
theorem dL_law_654 : decode cL_law 654 = .ok (.aload_n 1, 1) := by decide +kernel
theorem dL_law_655 : decode cL_law 655 = .ok (.aload_n 0, 1) := by decide +kernel
theorem dL_law_656 : decode cL_law 656 = .ok (.iload_n 3, 1) := by decide +kernel
theorem dL_law_657 : decode cL_law 657 = .ok (.iconst 1, 1) := by decide +kernel
theorem dL_law_658 : decode cL_law 658 = .ok (.iadd, 1) := by decide +kernel
theorem dL_law_659 : decode cL_law 659 = .ok (.iaload, 1) := by decide +kernel
theorem dL_law_660 : decode cL_law 660 = .ok (.invokevirtual 82, 3) := by decide +kernel
theorem dL_law_663 : decode cL_law 663 = .ok (.aload_n 2, 1) := by decide +kernel
theorem dL_law_664 : decode cL_law 664 = .ok (.aload_n 0, 1) := by decide +kernel
theorem dL_law_665 : decode cL_law 665 = .ok (.iload_n 3, 1) := by decide +kernel
theorem dL_law_666 : decode cL_law 666 = .ok (.iconst 1, 1) := by decide +kernel
theorem dL_law_667 : decode cL_law 667 = .ok (.iadd, 1) := by decide +kernel
theorem dL_law_668 : decode cL_law 668 = .ok (.iaload, 1) := by decide +kernel
theorem dL_law_669 : decode cL_law 669 = .ok (.invokevirtual 85, 3) := by decide +kernel
theorem dL_law_672 : decode cL_law 672 = .ok (.if_icmp .eq 480, 3) := by decide +kernel
theorem dL_law_675 : decode cL_law 675 = .ok (.iconst 0, 1) := by decide +kernel
theorem dL_law_676 : decode cL_law 676 = .ok (.ireturn, 1) := by decide +kernel
theorem dL_law_677 : decode cL_law 677 = .ok (.aload_n 1, 1) := by decide +kernel
theorem dL_law_678 : decode cL_law 678 = .ok (.aload_n 0, 1) := by decide +kernel
theorem dL_law_679 : decode cL_law 679 = .ok (.iload_n 3, 1) := by decide +kernel
theorem dL_law_680 : decode cL_law 680 = .ok (.iconst 1, 1) := by decide +kernel
theorem dL_law_681 : decode cL_law 681 = .ok (.iadd, 1) := by decide +kernel
theorem dL_law_682 : decode cL_law 682 = .ok (.iaload, 1) := by decide +kernel
theorem dL_law_683 : decode cL_law 683 = .ok (.invokevirtual 86, 3) := by decide +kernel
theorem dL_law_686 : decode cL_law 686 = .ok (.aload_n 2, 1) := by decide +kernel
theorem dL_law_687 : decode cL_law 687 = .ok (.aload_n 0, 1) := by decide +kernel
theorem dL_law_688 : decode cL_law 688 = .ok (.iload_n 3, 1) := by decide +kernel
theorem dL_law_689 : decode cL_law 689 = .ok (.iconst 1, 1) := by decide +kernel
theorem dL_law_690 : decode cL_law 690 = .ok (.iadd, 1) := by decide +kernel
theorem dL_law_691 : decode cL_law 691 = .ok (.iaload, 1) := by decide +kernel
theorem dL_law_692 : decode cL_law 692 = .ok (.invokevirtual 89, 3) := by decide +kernel
theorem dL_law_695 : decode cL_law 695 = .ok (.if_icmp .eq 457, 3) := by decide +kernel
theorem dL_law_698 : decode cL_law 698 = .ok (.iconst 0, 1) := by decide +kernel
theorem dL_law_699 : decode cL_law 699 = .ok (.ireturn, 1) := by decide +kernel
theorem dL_law_700 : decode cL_law 700 = .ok (.aload_n 1, 1) := by decide +kernel
theorem dL_law_701 : decode cL_law 701 = .ok (.aload_n 0, 1) := by decide +kernel
theorem dL_law_702 : decode cL_law 702 = .ok (.iload_n 3, 1) := by decide +kernel
theorem dL_law_703 : decode cL_law 703 = .ok (.iconst 1, 1) := by decide +kernel
theorem dL_law_704 : decode cL_law 704 = .ok (.iadd, 1) := by decide +kernel
theorem dL_law_705 : decode cL_law 705 = .ok (.iaload, 1) := by decide +kernel
theorem dL_law_706 : decode cL_law 706 = .ok (.aload_n 0, 1) := by decide +kernel
theorem dL_law_707 : decode cL_law 707 = .ok (.iload_n 3, 1) := by decide +kernel
theorem dL_law_708 : decode cL_law 708 = .ok (.iconst 2, 1) := by decide +kernel
theorem dL_law_709 : decode cL_law 709 = .ok (.iadd, 1) := by decide +kernel
theorem dL_law_710 : decode cL_law 710 = .ok (.iaload, 1) := by decide +kernel
theorem dL_law_711 : decode cL_law 711 = .ok (.invokevirtual 90, 3) := by decide +kernel
theorem dL_law_714 : decode cL_law 714 = .ok (.aload_n 2, 1) := by decide +kernel
theorem dL_law_715 : decode cL_law 715 = .ok (.aload_n 0, 1) := by decide +kernel
theorem dL_law_716 : decode cL_law 716 = .ok (.iload_n 3, 1) := by decide +kernel
theorem dL_law_717 : decode cL_law 717 = .ok (.iconst 1, 1) := by decide +kernel
theorem dL_law_718 : decode cL_law 718 = .ok (.iadd, 1) := by decide +kernel
theorem dL_law_719 : decode cL_law 719 = .ok (.iaload, 1) := by decide +kernel
theorem dL_law_720 : decode cL_law 720 = .ok (.aload_n 0, 1) := by decide +kernel
theorem dL_law_721 : decode cL_law 721 = .ok (.iload_n 3, 1) := by decide +kernel
theorem dL_law_722 : decode cL_law 722 = .ok (.iconst 2, 1) := by decide +kernel
theorem dL_law_723 : decode cL_law 723 = .ok (.iadd, 1) := by decide +kernel
theorem dL_law_724 : decode cL_law 724 = .ok (.iaload, 1) := by decide +kernel
theorem dL_law_725 : decode cL_law 725 = .ok (.invokevirtual 93, 3) := by decide +kernel
theorem dL_law_728 : decode cL_law 728 = .ok (.if_icmp .eq 424, 3) := by decide +kernel
theorem dL_law_731 : decode cL_law 731 = .ok (.iconst 0, 1) := by decide +kernel
theorem dL_law_732 : decode cL_law 732 = .ok (.ireturn, 1) := by decide +kernel
theorem dL_law_733 : decode cL_law 733 = .ok (.aload_n 1, 1) := by decide +kernel
theorem dL_law_734 : decode cL_law 734 = .ok (.aload_n 0, 1) := by decide +kernel
theorem dL_law_735 : decode cL_law 735 = .ok (.iload_n 3, 1) := by decide +kernel
theorem dL_law_736 : decode cL_law 736 = .ok (.iconst 1, 1) := by decide +kernel
theorem dL_law_737 : decode cL_law 737 = .ok (.iadd, 1) := by decide +kernel
theorem dL_law_738 : decode cL_law 738 = .ok (.iaload, 1) := by decide +kernel
theorem dL_law_739 : decode cL_law 739 = .ok (.aload_n 0, 1) := by decide +kernel
theorem dL_law_740 : decode cL_law 740 = .ok (.iload_n 3, 1) := by decide +kernel
theorem dL_law_741 : decode cL_law 741 = .ok (.iconst 2, 1) := by decide +kernel
theorem dL_law_742 : decode cL_law 742 = .ok (.iadd, 1) := by decide +kernel
theorem dL_law_743 : decode cL_law 743 = .ok (.iaload, 1) := by decide +kernel
theorem dL_law_744 : decode cL_law 744 = .ok (.invokevirtual 94, 3) := by decide +kernel
theorem dL_law_747 : decode cL_law 747 = .ok (.aload_n 2, 1) := by decide +kernel
theorem dL_law_748 : decode cL_law 748 = .ok (.aload_n 0, 1) := by decide +kernel
theorem dL_law_749 : decode cL_law 749 = .ok (.iload_n 3, 1) := by decide +kernel
theorem dL_law_750 : decode cL_law 750 = .ok (.iconst 1, 1) := by decide +kernel
theorem dL_law_751 : decode cL_law 751 = .ok (.iadd, 1) := by decide +kernel
theorem dL_law_752 : decode cL_law 752 = .ok (.iaload, 1) := by decide +kernel
theorem dL_law_753 : decode cL_law 753 = .ok (.aload_n 0, 1) := by decide +kernel
theorem dL_law_754 : decode cL_law 754 = .ok (.iload_n 3, 1) := by decide +kernel
theorem dL_law_755 : decode cL_law 755 = .ok (.iconst 2, 1) := by decide +kernel
theorem dL_law_756 : decode cL_law 756 = .ok (.iadd, 1) := by decide +kernel
theorem dL_law_757 : decode cL_law 757 = .ok (.iaload, 1) := by decide +kernel
theorem dL_law_758 : decode cL_law 758 = .ok (.invokevirtual 97, 3) := by decide +kernel
theorem dL_law_761 : decode cL_law 761 = .ok (.if_icmp .eq 391, 3) := by decide +kernel
theorem dL_law_764 : decode cL_law 764 = .ok (.iconst 0, 1) := by decide +kernel
theorem dL_law_765 : decode cL_law 765 = .ok (.ireturn, 1) := by decide +kernel
theorem dL_law_766 : decode cL_law 766 = .ok (.aload_n 1, 1) := by decide +kernel
theorem dL_law_767 : decode cL_law 767 = .ok (.aload_n 0, 1) := by decide +kernel
theorem dL_law_768 : decode cL_law 768 = .ok (.iload_n 3, 1) := by decide +kernel
theorem dL_law_769 : decode cL_law 769 = .ok (.iconst 1, 1) := by decide +kernel
theorem dL_law_770 : decode cL_law 770 = .ok (.iadd, 1) := by decide +kernel
theorem dL_law_771 : decode cL_law 771 = .ok (.iaload, 1) := by decide +kernel
theorem dL_law_772 : decode cL_law 772 = .ok (.aload_n 0, 1) := by decide +kernel
theorem dL_law_773 : decode cL_law 773 = .ok (.iload_n 3, 1) := by decide +kernel
theorem dL_law_774 : decode cL_law 774 = .ok (.iconst 2, 1) := by decide +kernel
theorem dL_law_775 : decode cL_law 775 = .ok (.iadd, 1) := by decide +kernel
theorem dL_law_776 : decode cL_law 776 = .ok (.iaload, 1) := by decide +kernel
theorem dL_law_777 : decode cL_law 777 = .ok (.invokevirtual 98, 3) := by decide +kernel
theorem dL_law_780 : decode cL_law 780 = .ok (.aload_n 2, 1) := by decide +kernel
theorem dL_law_781 : decode cL_law 781 = .ok (.aload_n 0, 1) := by decide +kernel
theorem dL_law_782 : decode cL_law 782 = .ok (.iload_n 3, 1) := by decide +kernel
theorem dL_law_783 : decode cL_law 783 = .ok (.iconst 1, 1) := by decide +kernel
theorem dL_law_784 : decode cL_law 784 = .ok (.iadd, 1) := by decide +kernel
theorem dL_law_785 : decode cL_law 785 = .ok (.iaload, 1) := by decide +kernel
theorem dL_law_786 : decode cL_law 786 = .ok (.aload_n 0, 1) := by decide +kernel
theorem dL_law_787 : decode cL_law 787 = .ok (.iload_n 3, 1) := by decide +kernel
theorem dL_law_788 : decode cL_law 788 = .ok (.iconst 2, 1) := by decide +kernel
theorem dL_law_789 : decode cL_law 789 = .ok (.iadd, 1) := by decide +kernel
theorem dL_law_790 : decode cL_law 790 = .ok (.iaload, 1) := by decide +kernel
theorem dL_law_791 : decode cL_law 791 = .ok (.invokevirtual 101, 3) := by decide +kernel
theorem dL_law_794 : decode cL_law 794 = .ok (.if_icmp .eq 358, 3) := by decide +kernel
theorem dL_law_797 : decode cL_law 797 = .ok (.iconst 0, 1) := by decide +kernel
theorem dL_law_798 : decode cL_law 798 = .ok (.ireturn, 1) := by decide +kernel
theorem dL_law_799 : decode cL_law 799 = .ok (.aload_n 1, 1) := by decide +kernel
theorem dL_law_800 : decode cL_law 800 = .ok (.aload_n 0, 1) := by decide +kernel
theorem dL_law_801 : decode cL_law 801 = .ok (.iload_n 3, 1) := by decide +kernel
theorem dL_law_802 : decode cL_law 802 = .ok (.iconst 1, 1) := by decide +kernel
theorem dL_law_803 : decode cL_law 803 = .ok (.iadd, 1) := by decide +kernel
theorem dL_law_804 : decode cL_law 804 = .ok (.iaload, 1) := by decide +kernel
theorem dL_law_805 : decode cL_law 805 = .ok (.aload_n 0, 1) := by decide +kernel
theorem dL_law_806 : decode cL_law 806 = .ok (.iload_n 3, 1) := by decide +kernel
theorem dL_law_807 : decode cL_law 807 = .ok (.iconst 2, 1) := by decide +kernel
theorem dL_law_808 : decode cL_law 808 = .ok (.iadd, 1) := by decide +kernel
theorem dL_law_809 : decode cL_law 809 = .ok (.iaload, 1) := by decide +kernel
theorem dL_law_810 : decode cL_law 810 = .ok (.aload_n 0, 1) := by decide +kernel
theorem dL_law_811 : decode cL_law 811 = .ok (.iload_n 3, 1) := by decide +kernel
theorem dL_law_812 : decode cL_law 812 = .ok (.iconst 3, 1) := by decide +kernel
theorem dL_law_813 : decode cL_law 813 = .ok (.iadd, 1) := by decide +kernel
theorem dL_law_814 : decode cL_law 814 = .ok (.iaload, 1) := by decide +kernel
theorem dL_law_815 : decode cL_law 815 = .ok (.aload_n 0, 1) := by decide +kernel
theorem dL_law_816 : decode cL_law 816 = .ok (.iload_n 3, 1) := by decide +kernel
theorem dL_law_817 : decode cL_law 817 = .ok (.iconst 4, 1) := by decide +kernel
theorem dL_law_818 : decode cL_law 818 = .ok (.iadd, 1) := by decide +kernel
theorem dL_law_819 : decode cL_law 819 = .ok (.iaload, 1) := by decide +kernel
theorem dL_law_820 : decode cL_law 820 = .ok (.aload_n 0, 1) := by decide +kernel
theorem dL_law_821 : decode cL_law 821 = .ok (.iload_n 3, 1) := by decide +kernel
theorem dL_law_822 : decode cL_law 822 = .ok (.iconst 5, 1) := by decide +kernel
theorem dL_law_823 : decode cL_law 823 = .ok (.iadd, 1) := by decide +kernel
theorem dL_law_824 : decode cL_law 824 = .ok (.iaload, 1) := by decide +kernel
theorem dL_law_825 : decode cL_law 825 = .ok (.invokevirtual 102, 3) := by decide +kernel
theorem dL_law_828 : decode cL_law 828 = .ok (.aload_n 2, 1) := by decide +kernel
theorem dL_law_829 : decode cL_law 829 = .ok (.aload_n 0, 1) := by decide +kernel
theorem dL_law_830 : decode cL_law 830 = .ok (.iload_n 3, 1) := by decide +kernel
theorem dL_law_831 : decode cL_law 831 = .ok (.iconst 1, 1) := by decide +kernel
theorem dL_law_832 : decode cL_law 832 = .ok (.iadd, 1) := by decide +kernel
theorem dL_law_833 : decode cL_law 833 = .ok (.iaload, 1) := by decide +kernel
theorem dL_law_834 : decode cL_law 834 = .ok (.aload_n 0, 1) := by decide +kernel
theorem dL_law_835 : decode cL_law 835 = .ok (.iload_n 3, 1) := by decide +kernel
theorem dL_law_836 : decode cL_law 836 = .ok (.iconst 2, 1) := by decide +kernel
theorem dL_law_837 : decode cL_law 837 = .ok (.iadd, 1) := by decide +kernel
theorem dL_law_838 : decode cL_law 838 = .ok (.iaload, 1) := by decide +kernel
theorem dL_law_839 : decode cL_law 839 = .ok (.aload_n 0, 1) := by decide +kernel
theorem dL_law_840 : decode cL_law 840 = .ok (.iload_n 3, 1) := by decide +kernel
theorem dL_law_841 : decode cL_law 841 = .ok (.iconst 3, 1) := by decide +kernel
theorem dL_law_842 : decode cL_law 842 = .ok (.iadd, 1) := by decide +kernel
theorem dL_law_843 : decode cL_law 843 = .ok (.iaload, 1) := by decide +kernel
theorem dL_law_844 : decode cL_law 844 = .ok (.aload_n 0, 1) := by decide +kernel
theorem dL_law_845 : decode cL_law 845 = .ok (.iload_n 3, 1) := by decide +kernel
theorem dL_law_846 : decode cL_law 846 = .ok (.iconst 4, 1) := by decide +kernel
theorem dL_law_847 : decode cL_law 847 = .ok (.iadd, 1) := by decide +kernel
theorem dL_law_848 : decode cL_law 848 = .ok (.iaload, 1) := by decide +kernel
theorem dL_law_849 : decode cL_law 849 = .ok (.aload_n 0, 1) := by decide +kernel
theorem dL_law_850 : decode cL_law 850 = .ok (.iload_n 3, 1) := by decide +kernel
theorem dL_law_851 : decode cL_law 851 = .ok (.iconst 5, 1) := by decide +kernel
theorem dL_law_852 : decode cL_law 852 = .ok (.iadd, 1) := by decide +kernel
theorem dL_law_853 : decode cL_law 853 = .ok (.iaload, 1) := by decide +kernel
theorem dL_law_854 : decode cL_law 854 = .ok (.invokevirtual 105, 3) := by decide +kernel
theorem dL_law_857 : decode cL_law 857 = .ok (.if_icmp .eq 295, 3) := by decide +kernel
theorem dL_law_860 : decode cL_law 860 = .ok (.iconst 0, 1) := by decide +kernel
theorem dL_law_861 : decode cL_law 861 = .ok (.ireturn, 1) := by decide +kernel
theorem dL_law_862 : decode cL_law 862 = .ok (.aload_n 1, 1) := by decide +kernel
theorem dL_law_863 : decode cL_law 863 = .ok (.aload_n 0, 1) := by decide +kernel
theorem dL_law_864 : decode cL_law 864 = .ok (.iload_n 3, 1) := by decide +kernel
theorem dL_law_865 : decode cL_law 865 = .ok (.iconst 1, 1) := by decide +kernel
theorem dL_law_866 : decode cL_law 866 = .ok (.iadd, 1) := by decide +kernel
theorem dL_law_867 : decode cL_law 867 = .ok (.iaload, 1) := by decide +kernel
theorem dL_law_868 : decode cL_law 868 = .ok (.aload_n 0, 1) := by decide +kernel
theorem dL_law_869 : decode cL_law 869 = .ok (.iload_n 3, 1) := by decide +kernel
theorem dL_law_870 : decode cL_law 870 = .ok (.iconst 2, 1) := by decide +kernel
theorem dL_law_871 : decode cL_law 871 = .ok (.iadd, 1) := by decide +kernel
theorem dL_law_872 : decode cL_law 872 = .ok (.iaload, 1) := by decide +kernel
theorem dL_law_873 : decode cL_law 873 = .ok (.aload_n 0, 1) := by decide +kernel
theorem dL_law_874 : decode cL_law 874 = .ok (.iload_n 3, 1) := by decide +kernel
theorem dL_law_875 : decode cL_law 875 = .ok (.iconst 3, 1) := by decide +kernel
theorem dL_law_876 : decode cL_law 876 = .ok (.iadd, 1) := by decide +kernel
theorem dL_law_877 : decode cL_law 877 = .ok (.iaload, 1) := by decide +kernel
theorem dL_law_878 : decode cL_law 878 = .ok (.aload_n 0, 1) := by decide +kernel
theorem dL_law_879 : decode cL_law 879 = .ok (.iload_n 3, 1) := by decide +kernel
theorem dL_law_880 : decode cL_law 880 = .ok (.iconst 4, 1) := by decide +kernel
theorem dL_law_881 : decode cL_law 881 = .ok (.iadd, 1) := by decide +kernel
theorem dL_law_882 : decode cL_law 882 = .ok (.iaload, 1) := by decide +kernel
theorem dL_law_883 : decode cL_law 883 = .ok (.invokevirtual 106, 3) := by decide +kernel
theorem dL_law_886 : decode cL_law 886 = .ok (.aload_n 2, 1) := by decide +kernel
theorem dL_law_887 : decode cL_law 887 = .ok (.aload_n 0, 1) := by decide +kernel
theorem dL_law_888 : decode cL_law 888 = .ok (.iload_n 3, 1) := by decide +kernel
theorem dL_law_889 : decode cL_law 889 = .ok (.iconst 1, 1) := by decide +kernel
theorem dL_law_890 : decode cL_law 890 = .ok (.iadd, 1) := by decide +kernel
theorem dL_law_891 : decode cL_law 891 = .ok (.iaload, 1) := by decide +kernel
theorem dL_law_892 : decode cL_law 892 = .ok (.aload_n 0, 1) := by decide +kernel
theorem dL_law_893 : decode cL_law 893 = .ok (.iload_n 3, 1) := by decide +kernel
theorem dL_law_894 : decode cL_law 894 = .ok (.iconst 2, 1) := by decide +kernel
theorem dL_law_895 : decode cL_law 895 = .ok (.iadd, 1) := by decide +kernel
theorem dL_law_896 : decode cL_law 896 = .ok (.iaload, 1) := by decide +kernel
theorem dL_law_897 : decode cL_law 897 = .ok (.aload_n 0, 1) := by decide +kernel
theorem dL_law_898 : decode cL_law 898 = .ok (.iload_n 3, 1) := by decide +kernel
theorem dL_law_899 : decode cL_law 899 = .ok (.iconst 3, 1) := by decide +kernel
theorem dL_law_900 : decode cL_law 900 = .ok (.iadd, 1) := by decide +kernel
theorem dL_law_901 : decode cL_law 901 = .ok (.iaload, 1) := by decide +kernel
theorem dL_law_902 : decode cL_law 902 = .ok (.aload_n 0, 1) := by decide +kernel
theorem dL_law_903 : decode cL_law 903 = .ok (.iload_n 3, 1) := by decide +kernel
theorem dL_law_904 : decode cL_law 904 = .ok (.iconst 4, 1) := by decide +kernel
theorem dL_law_905 : decode cL_law 905 = .ok (.iadd, 1) := by decide +kernel
theorem dL_law_906 : decode cL_law 906 = .ok (.iaload, 1) := by decide +kernel
theorem dL_law_907 : decode cL_law 907 = .ok (.invokevirtual 110, 3) := by decide +kernel
theorem dL_law_910 : decode cL_law 910 = .ok (.if_icmp .eq 242, 3) := by decide +kernel
theorem dL_law_913 : decode cL_law 913 = .ok (.iconst 0, 1) := by decide +kernel
theorem dL_law_914 : decode cL_law 914 = .ok (.ireturn, 1) := by decide +kernel
theorem dL_law_915 : decode cL_law 915 = .ok (.aload_n 1, 1) := by decide +kernel
theorem dL_law_916 : decode cL_law 916 = .ok (.aload_n 0, 1) := by decide +kernel
theorem dL_law_917 : decode cL_law 917 = .ok (.iload_n 3, 1) := by decide +kernel
theorem dL_law_918 : decode cL_law 918 = .ok (.iconst 1, 1) := by decide +kernel
theorem dL_law_919 : decode cL_law 919 = .ok (.iadd, 1) := by decide +kernel
theorem dL_law_920 : decode cL_law 920 = .ok (.iaload, 1) := by decide +kernel
theorem dL_law_921 : decode cL_law 921 = .ok (.aload_n 0, 1) := by decide +kernel
theorem dL_law_922 : decode cL_law 922 = .ok (.iload_n 3, 1) := by decide +kernel
theorem dL_law_923 : decode cL_law 923 = .ok (.iconst 2, 1) := by decide +kernel
theorem dL_law_924 : decode cL_law 924 = .ok (.iadd, 1) := by decide +kernel
theorem dL_law_925 : decode cL_law 925 = .ok (.iaload, 1) := by decide +kernel
theorem dL_law_926 : decode cL_law 926 = .ok (.aload_n 0, 1) := by decide +kernel
theorem dL_law_927 : decode cL_law 927 = .ok (.iload_n 3, 1) := by decide +kernel
theorem dL_law_928 : decode cL_law 928 = .ok (.iconst 3, 1) := by decide +kernel
theorem dL_law_929 : decode cL_law 929 = .ok (.iadd, 1) := by decide +kernel
theorem dL_law_930 : decode cL_law 930 = .ok (.iaload, 1) := by decide +kernel
theorem dL_law_931 : decode cL_law 931 = .ok (.invokevirtual 111, 3) := by decide +kernel
theorem dL_law_934 : decode cL_law 934 = .ok (.aload_n 2, 1) := by decide +kernel
theorem dL_law_935 : decode cL_law 935 = .ok (.aload_n 0, 1) := by decide +kernel
theorem dL_law_936 : decode cL_law 936 = .ok (.iload_n 3, 1) := by decide +kernel
theorem dL_law_937 : decode cL_law 937 = .ok (.iconst 1, 1) := by decide +kernel
theorem dL_law_938 : decode cL_law 938 = .ok (.iadd, 1) := by decide +kernel
theorem dL_law_939 : decode cL_law 939 = .ok (.iaload, 1) := by decide +kernel
theorem dL_law_940 : decode cL_law 940 = .ok (.aload_n 0, 1) := by decide +kernel
theorem dL_law_941 : decode cL_law 941 = .ok (.iload_n 3, 1) := by decide +kernel
theorem dL_law_942 : decode cL_law 942 = .ok (.iconst 2, 1) := by decide +kernel
theorem dL_law_943 : decode cL_law 943 = .ok (.iadd, 1) := by decide +kernel
theorem dL_law_944 : decode cL_law 944 = .ok (.iaload, 1) := by decide +kernel
theorem dL_law_945 : decode cL_law 945 = .ok (.aload_n 0, 1) := by decide +kernel
theorem dL_law_946 : decode cL_law 946 = .ok (.iload_n 3, 1) := by decide +kernel
theorem dL_law_947 : decode cL_law 947 = .ok (.iconst 3, 1) := by decide +kernel
theorem dL_law_948 : decode cL_law 948 = .ok (.iadd, 1) := by decide +kernel
theorem dL_law_949 : decode cL_law 949 = .ok (.iaload, 1) := by decide +kernel
theorem dL_law_950 : decode cL_law 950 = .ok (.invokevirtual 114, 3) := by decide +kernel
theorem dL_law_953 : decode cL_law 953 = .ok (.if_icmp .eq 199, 3) := by decide +kernel
theorem dL_law_956 : decode cL_law 956 = .ok (.iconst 0, 1) := by decide +kernel
theorem dL_law_957 : decode cL_law 957 = .ok (.ireturn, 1) := by decide +kernel
theorem dL_law_958 : decode cL_law 958 = .ok (.aload_n 1, 1) := by decide +kernel
theorem dL_law_959 : decode cL_law 959 = .ok (.aload_n 0, 1) := by decide +kernel
theorem dL_law_960 : decode cL_law 960 = .ok (.iload_n 3, 1) := by decide +kernel
theorem dL_law_961 : decode cL_law 961 = .ok (.iconst 1, 1) := by decide +kernel
theorem dL_law_962 : decode cL_law 962 = .ok (.iadd, 1) := by decide +kernel
theorem dL_law_963 : decode cL_law 963 = .ok (.iaload, 1) := by decide +kernel
theorem dL_law_964 : decode cL_law 964 = .ok (.invokevirtual 115, 3) := by decide +kernel
theorem dL_law_967 : decode cL_law 967 = .ok (.aload_n 2, 1) := by decide +kernel
theorem dL_law_968 : decode cL_law 968 = .ok (.aload_n 0, 1) := by decide +kernel
theorem dL_law_969 : decode cL_law 969 = .ok (.iload_n 3, 1) := by decide +kernel
theorem dL_law_970 : decode cL_law 970 = .ok (.iconst 1, 1) := by decide +kernel
theorem dL_law_971 : decode cL_law 971 = .ok (.iadd, 1) := by decide +kernel
theorem dL_law_972 : decode cL_law 972 = .ok (.iaload, 1) := by decide +kernel
theorem dL_law_973 : decode cL_law 973 = .ok (.invokevirtual 118, 3) := by decide +kernel
theorem dL_law_976 : decode cL_law 976 = .ok (.if_icmp .eq 176, 3) := by decide +kernel
theorem dL_law_979 : decode cL_law 979 = .ok (.iconst 0, 1) := by decide +kernel
theorem dL_law_980 : decode cL_law 980 = .ok (.ireturn, 1) := by decide +kernel
theorem dL_law_981 : decode cL_law 981 = .ok (.aload_n 1, 1) := by decide +kernel
theorem dL_law_982 : decode cL_law 982 = .ok (.aload_n 0, 1) := by decide +kernel
theorem dL_law_983 : decode cL_law 983 = .ok (.iload_n 3, 1) := by decide +kernel
theorem dL_law_984 : decode cL_law 984 = .ok (.iconst 1, 1) := by decide +kernel
theorem dL_law_985 : decode cL_law 985 = .ok (.iadd, 1) := by decide +kernel
theorem dL_law_986 : decode cL_law 986 = .ok (.iaload, 1) := by decide +kernel
theorem dL_law_987 : decode cL_law 987 = .ok (.invokevirtual 119, 3) := by decide +kernel
theorem dL_law_990 : decode cL_law 990 = .ok (.aload_n 2, 1) := by decide +kernel
theorem dL_law_991 : decode cL_law 991 = .ok (.aload_n 0, 1) := by decide +kernel
theorem dL_law_992 : decode cL_law 992 = .ok (.iload_n 3, 1) := by decide +kernel
theorem dL_law_993 : decode cL_law 993 = .ok (.iconst 1, 1) := by decide +kernel
theorem dL_law_994 : decode cL_law 994 = .ok (.iadd, 1) := by decide +kernel
theorem dL_law_995 : decode cL_law 995 = .ok (.iaload, 1) := by decide +kernel
theorem dL_law_996 : decode cL_law 996 = .ok (.invokevirtual 122, 3) := by decide +kernel
theorem dL_law_999 : decode cL_law 999 = .ok (.if_icmp .eq 153, 3) := by decide +kernel
theorem dL_law_1002 : decode cL_law 1002 = .ok (.iconst 0, 1) := by decide +kernel
theorem dL_law_1003 : decode cL_law 1003 = .ok (.ireturn, 1) := by decide +kernel
theorem dL_law_1004 : decode cL_law 1004 = .ok (.aload_n 1, 1) := by decide +kernel
theorem dL_law_1005 : decode cL_law 1005 = .ok (.aload_n 0, 1) := by decide +kernel
theorem dL_law_1006 : decode cL_law 1006 = .ok (.iload_n 3, 1) := by decide +kernel
theorem dL_law_1007 : decode cL_law 1007 = .ok (.iconst 1, 1) := by decide +kernel
theorem dL_law_1008 : decode cL_law 1008 = .ok (.iadd, 1) := by decide +kernel
theorem dL_law_1009 : decode cL_law 1009 = .ok (.iaload, 1) := by decide +kernel
theorem dL_law_1010 : decode cL_law 1010 = .ok (.invokevirtual 123, 3) := by decide +kernel
theorem dL_law_1013 : decode cL_law 1013 = .ok (.aload_n 2, 1) := by decide +kernel
theorem dL_law_1014 : decode cL_law 1014 = .ok (.aload_n 0, 1) := by decide +kernel
theorem dL_law_1015 : decode cL_law 1015 = .ok (.iload_n 3, 1) := by decide +kernel
theorem dL_law_1016 : decode cL_law 1016 = .ok (.iconst 1, 1) := by decide +kernel
theorem dL_law_1017 : decode cL_law 1017 = .ok (.iadd, 1) := by decide +kernel
theorem dL_law_1018 : decode cL_law 1018 = .ok (.iaload, 1) := by decide +kernel
theorem dL_law_1019 : decode cL_law 1019 = .ok (.invokevirtual 126, 3) := by decide +kernel
theorem dL_law_1022 : decode cL_law 1022 = .ok (.if_icmp .eq 130, 3) := by decide +kernel
theorem dL_law_1025 : decode cL_law 1025 = .ok (.iconst 0, 1) := by decide +kernel
theorem dL_law_1026 : decode cL_law 1026 = .ok (.ireturn, 1) := by decide +kernel
theorem dL_law_1027 : decode cL_law 1027 = .ok (.aload_n 1, 1) := by decide +kernel
theorem dL_law_1028 : decode cL_law 1028 = .ok (.aload_n 0, 1) := by decide +kernel
theorem dL_law_1029 : decode cL_law 1029 = .ok (.iload_n 3, 1) := by decide +kernel
theorem dL_law_1030 : decode cL_law 1030 = .ok (.iconst 1, 1) := by decide +kernel
theorem dL_law_1031 : decode cL_law 1031 = .ok (.iadd, 1) := by decide +kernel
theorem dL_law_1032 : decode cL_law 1032 = .ok (.iaload, 1) := by decide +kernel
theorem dL_law_1033 : decode cL_law 1033 = .ok (.aload_n 0, 1) := by decide +kernel
theorem dL_law_1034 : decode cL_law 1034 = .ok (.iload_n 3, 1) := by decide +kernel
theorem dL_law_1035 : decode cL_law 1035 = .ok (.iconst 2, 1) := by decide +kernel
theorem dL_law_1036 : decode cL_law 1036 = .ok (.iadd, 1) := by decide +kernel
theorem dL_law_1037 : decode cL_law 1037 = .ok (.iaload, 1) := by decide +kernel
theorem dL_law_1038 : decode cL_law 1038 = .ok (.invokevirtual 127, 3) := by decide +kernel
theorem dL_law_1041 : decode cL_law 1041 = .ok (.aload_n 2, 1) := by decide +kernel
theorem dL_law_1042 : decode cL_law 1042 = .ok (.aload_n 0, 1) := by decide +kernel
theorem dL_law_1043 : decode cL_law 1043 = .ok (.iload_n 3, 1) := by decide +kernel
theorem dL_law_1044 : decode cL_law 1044 = .ok (.iconst 1, 1) := by decide +kernel
theorem dL_law_1045 : decode cL_law 1045 = .ok (.iadd, 1) := by decide +kernel
theorem dL_law_1046 : decode cL_law 1046 = .ok (.iaload, 1) := by decide +kernel
theorem dL_law_1047 : decode cL_law 1047 = .ok (.aload_n 0, 1) := by decide +kernel
theorem dL_law_1048 : decode cL_law 1048 = .ok (.iload_n 3, 1) := by decide +kernel
theorem dL_law_1049 : decode cL_law 1049 = .ok (.iconst 2, 1) := by decide +kernel
theorem dL_law_1050 : decode cL_law 1050 = .ok (.iadd, 1) := by decide +kernel
theorem dL_law_1051 : decode cL_law 1051 = .ok (.iaload, 1) := by decide +kernel
theorem dL_law_1052 : decode cL_law 1052 = .ok (.invokevirtual 130, 3) := by decide +kernel
theorem dL_law_1055 : decode cL_law 1055 = .ok (.if_icmp .eq 97, 3) := by decide +kernel
theorem dL_law_1058 : decode cL_law 1058 = .ok (.iconst 0, 1) := by decide +kernel
theorem dL_law_1059 : decode cL_law 1059 = .ok (.ireturn, 1) := by decide +kernel
theorem dL_law_1060 : decode cL_law 1060 = .ok (.aload_n 1, 1) := by decide +kernel
theorem dL_law_1061 : decode cL_law 1061 = .ok (.aload_n 0, 1) := by decide +kernel
theorem dL_law_1062 : decode cL_law 1062 = .ok (.iload_n 3, 1) := by decide +kernel
theorem dL_law_1063 : decode cL_law 1063 = .ok (.iconst 1, 1) := by decide +kernel
theorem dL_law_1064 : decode cL_law 1064 = .ok (.iadd, 1) := by decide +kernel
theorem dL_law_1065 : decode cL_law 1065 = .ok (.iaload, 1) := by decide +kernel
theorem dL_law_1066 : decode cL_law 1066 = .ok (.aload_n 0, 1) := by decide +kernel
theorem dL_law_1067 : decode cL_law 1067 = .ok (.iload_n 3, 1) := by decide +kernel
theorem dL_law_1068 : decode cL_law 1068 = .ok (.iconst 2, 1) := by decide +kernel
theorem dL_law_1069 : decode cL_law 1069 = .ok (.iadd, 1) := by decide +kernel
theorem dL_law_1070 : decode cL_law 1070 = .ok (.iaload, 1) := by decide +kernel
theorem dL_law_1071 : decode cL_law 1071 = .ok (.invokevirtual 131, 3) := by decide +kernel
theorem dL_law_1074 : decode cL_law 1074 = .ok (.aload_n 2, 1) := by decide +kernel
theorem dL_law_1075 : decode cL_law 1075 = .ok (.aload_n 0, 1) := by decide +kernel
theorem dL_law_1076 : decode cL_law 1076 = .ok (.iload_n 3, 1) := by decide +kernel
theorem dL_law_1077 : decode cL_law 1077 = .ok (.iconst 1, 1) := by decide +kernel
theorem dL_law_1078 : decode cL_law 1078 = .ok (.iadd, 1) := by decide +kernel
theorem dL_law_1079 : decode cL_law 1079 = .ok (.iaload, 1) := by decide +kernel
theorem dL_law_1080 : decode cL_law 1080 = .ok (.aload_n 0, 1) := by decide +kernel
theorem dL_law_1081 : decode cL_law 1081 = .ok (.iload_n 3, 1) := by decide +kernel
theorem dL_law_1082 : decode cL_law 1082 = .ok (.iconst 2, 1) := by decide +kernel
theorem dL_law_1083 : decode cL_law 1083 = .ok (.iadd, 1) := by decide +kernel
theorem dL_law_1084 : decode cL_law 1084 = .ok (.iaload, 1) := by decide +kernel
theorem dL_law_1085 : decode cL_law 1085 = .ok (.invokevirtual 134, 3) := by decide +kernel
theorem dL_law_1088 : decode cL_law 1088 = .ok (.if_icmp .eq 64, 3) := by decide +kernel
theorem dL_law_1091 : decode cL_law 1091 = .ok (.iconst 0, 1) := by decide +kernel
theorem dL_law_1092 : decode cL_law 1092 = .ok (.ireturn, 1) := by decide +kernel
theorem dL_law_1093 : decode cL_law 1093 = .ok (.aload_n 1, 1) := by decide +kernel
theorem dL_law_1094 : decode cL_law 1094 = .ok (.aload_n 0, 1) := by decide +kernel
theorem dL_law_1095 : decode cL_law 1095 = .ok (.iload_n 3, 1) := by decide +kernel
theorem dL_law_1096 : decode cL_law 1096 = .ok (.iconst 1, 1) := by decide +kernel
theorem dL_law_1097 : decode cL_law 1097 = .ok (.iadd, 1) := by decide +kernel
theorem dL_law_1098 : decode cL_law 1098 = .ok (.iaload, 1) := by decide +kernel
theorem dL_law_1099 : decode cL_law 1099 = .ok (.invokevirtual 135, 3) := by decide +kernel
theorem dL_law_1102 : decode cL_law 1102 = .ok (.aload_n 2, 1) := by decide +kernel
theorem dL_law_1103 : decode cL_law 1103 = .ok (.aload_n 0, 1) := by decide +kernel
theorem dL_law_1104 : decode cL_law 1104 = .ok (.iload_n 3, 1) := by decide +kernel
theorem dL_law_1105 : decode cL_law 1105 = .ok (.iconst 1, 1) := by decide +kernel
theorem dL_law_1106 : decode cL_law 1106 = .ok (.iadd, 1) := by decide +kernel
theorem dL_law_1107 : decode cL_law 1107 = .ok (.iaload, 1) := by decide +kernel
theorem dL_law_1108 : decode cL_law 1108 = .ok (.invokevirtual 138, 3) := by decide +kernel
theorem dL_law_1111 : decode cL_law 1111 = .ok (.if_icmp .eq 41, 3) := by decide +kernel
theorem dL_law_1114 : decode cL_law 1114 = .ok (.iconst 0, 1) := by decide +kernel
theorem dL_law_1115 : decode cL_law 1115 = .ok (.ireturn, 1) := by decide +kernel
theorem dL_law_1116 : decode cL_law 1116 = .ok (.aload_n 1, 1) := by decide +kernel
theorem dL_law_1117 : decode cL_law 1117 = .ok (.aload_n 0, 1) := by decide +kernel
theorem dL_law_1118 : decode cL_law 1118 = .ok (.iload_n 3, 1) := by decide +kernel
theorem dL_law_1119 : decode cL_law 1119 = .ok (.iconst 1, 1) := by decide +kernel
theorem dL_law_1120 : decode cL_law 1120 = .ok (.iadd, 1) := by decide +kernel
theorem dL_law_1121 : decode cL_law 1121 = .ok (.iaload, 1) := by decide +kernel
theorem dL_law_1122 : decode cL_law 1122 = .ok (.invokevirtual 139, 3) := by decide +kernel
theorem dL_law_1125 : decode cL_law 1125 = .ok (.aload_n 2, 1) := by decide +kernel
theorem dL_law_1126 : decode cL_law 1126 = .ok (.aload_n 0, 1) := by decide +kernel
theorem dL_law_1127 : decode cL_law 1127 = .ok (.iload_n 3, 1) := by decide +kernel
theorem dL_law_1128 : decode cL_law 1128 = .ok (.iconst 1, 1) := by decide +kernel
theorem dL_law_1129 : decode cL_law 1129 = .ok (.iadd, 1) := by decide +kernel
theorem dL_law_1130 : decode cL_law 1130 = .ok (.iaload, 1) := by decide +kernel
theorem dL_law_1131 : decode cL_law 1131 = .ok (.invokevirtual 142, 3) := by decide +kernel
theorem dL_law_1134 : decode cL_law 1134 = .ok (.if_icmp .eq 18, 3) := by decide +kernel
theorem dL_law_1137 : decode cL_law 1137 = .ok (.iconst 0, 1) := by decide +kernel
theorem dL_law_1138 : decode cL_law 1138 = .ok (.ireturn, 1) := by decide +kernel
theorem dL_law_1139 : decode cL_law 1139 = .ok (.aload_n 1, 1) := by decide +kernel
theorem dL_law_1140 : decode cL_law 1140 = .ok (.invokevirtual 143, 3) := by decide +kernel
theorem dL_law_1143 : decode cL_law 1143 = .ok (.aload_n 2, 1) := by decide +kernel
theorem dL_law_1144 : decode cL_law 1144 = .ok (.invokevirtual 146, 3) := by decide +kernel
theorem dL_law_1147 : decode cL_law 1147 = .ok (.if_icmp .eq 5, 3) := by decide +kernel
theorem dL_law_1150 : decode cL_law 1150 = .ok (.iconst 0, 1) := by decide +kernel
theorem dL_law_1151 : decode cL_law 1151 = .ok (.ireturn, 1) := by decide +kernel
theorem dL_law_1152 : decode cL_law 1152 = .ok (.iinc 3 6, 3) := by decide +kernel
theorem dL_law_1155 : decode cL_law 1155 = .ok (.goto (-1137), 3) := by decide +kernel
theorem dL_law_1158 : decode cL_law 1158 = .ok (.iconst 1, 1) := by decide +kernel
theorem dL_law_1159 : decode cL_law 1159 = .ok (.ireturn, 1) := by decide +kernel
