theorem dX0_init_0 : decode cX0_init 0 = .ok (.aload_n 0, 1) := by decide +kernel
theorem dX0_init_1 : decode cX0_init 1 = .ok (.invokespecial 3, 3) := by decide +kernel
theorem dX0_init_4 : decode cX0_init 4 = .ok (.aload_n 0, 1) := by decide +kernel
theorem dX0_init_5 : decode cX0_init 5 = .ok (.new 9, 3) := by decide +kernel
theorem dX0_init_8 : decode cX0_init 8 = .ok (.dup, 1) := by decide +kernel
theorem dX0_init_9 : decode cX0_init 9 = .ok (.bipush 6, 2) := by decide +kernel
theorem dX0_init_11 : decode cX0_init 11 = .ok (.iconst 1, 1) := by decide +kernel
theorem dX0_init_12 : decode cX0_init 12 = .ok (.invokespecial 13, 3) := by decide +kernel
theorem dX0_init_15 : decode cX0_init 15 = .ok (.putfield 16, 3) := by decide +kernel
theorem dX0_init_18 : decode cX0_init 18 = .ok (.aload_n 0, 1) := by decide +kernel
theorem dX0_init_19 : decode cX0_init 19 = .ok (.new 9, 3) := by decide +kernel
theorem dX0_init_22 : decode cX0_init 22 = .ok (.dup, 1) := by decide +kernel
theorem dX0_init_23 : decode cX0_init 23 = .ok (.bipush 6, 2) := by decide +kernel
theorem dX0_init_25 : decode cX0_init 25 = .ok (.sipush 2000, 3) := by decide +kernel
theorem dX0_init_28 : decode cX0_init 28 = .ok (.invokespecial 13, 3) := by decide +kernel
theorem dX0_init_31 : decode cX0_init 31 = .ok (.putfield 20, 3) := by decide +kernel
theorem dX0_init_34 : decode cX0_init 34 = .ok (.aload_n 0, 1) := by decide +kernel
theorem dX0_init_35 : decode cX0_init 35 = .ok (.new 9, 3) := by decide +kernel
theorem dX0_init_38 : decode cX0_init 38 = .ok (.dup, 1) := by decide +kernel
theorem dX0_init_39 : decode cX0_init 39 = .ok (.bipush 6, 2) := by decide +kernel
theorem dX0_init_41 : decode cX0_init 41 = .ok (.iconst 1, 1) := by decide +kernel
theorem dX0_init_42 : decode cX0_init 42 = .ok (.invokespecial 13, 3) := by decide +kernel
theorem dX0_init_45 : decode cX0_init 45 = .ok (.putfield 23, 3) := by decide +kernel
theorem dX0_init_48 : decode cX0_init 48 = .ok (.aload_n 0, 1) := by decide +kernel
theorem dX0_init_49 : decode cX0_init 49 = .ok (.new 9, 3) := by decide +kernel
theorem dX0_init_52 : decode cX0_init 52 = .ok (.dup, 1) := by decide +kernel
theorem dX0_init_53 : decode cX0_init 53 = .ok (.bipush 6, 2) := by decide +kernel
theorem dX0_init_55 : decode cX0_init 55 = .ok (.bipush 50, 2) := by decide +kernel
theorem dX0_init_57 : decode cX0_init 57 = .ok (.invokespecial 13, 3) := by decide +kernel
theorem dX0_init_60 : decode cX0_init 60 = .ok (.putfield 26, 3) := by decide +kernel
theorem dX0_init_63 : decode cX0_init 63 = .ok (.aload_n 0, 1) := by decide +kernel
theorem dX0_init_64 : decode cX0_init 64 = .ok (.bipush 60, 2) := by decide +kernel
theorem dX0_init_66 : decode cX0_init 66 = .ok (.putfield 29, 3) := by decide +kernel
theorem dX0_init_69 : decode cX0_init 69 = .ok (.aload_n 0, 1) := by decide +kernel
theorem dX0_init_70 : decode cX0_init 70 = .ok (.bipush 16, 2) := by decide +kernel
theorem dX0_init_72 : decode cX0_init 72 = .ok (.putfield 33, 3) := by decide +kernel
theorem dX0_init_75 : decode cX0_init 75 = .ok (.return_, 1) := by decide +kernel
theorem dX0_describe_0 : decode cX0_describe 0 = .ok (.aload_n 0, 1) := by decide +kernel
theorem dX0_describe_1 : decode cX0_describe 1 = .ok (.getfield 16, 3) := by decide +kernel
theorem dX0_describe_4 : decode cX0_describe 4 = .ok (.iload_n 1, 1) := by decide +kernel
theorem dX0_describe_5 : decode cX0_describe 5 = .ok (.iload_n 2, 1) := by decide +kernel
theorem dX0_describe_6 : decode cX0_describe 6 = .ok (.invokevirtual 36, 3) := by decide +kernel
theorem dX0_describe_9 : decode cX0_describe 9 = .ok (.aload_n 0, 1) := by decide +kernel
theorem dX0_describe_10 : decode cX0_describe 10 = .ok (.getfield 20, 3) := by decide +kernel
theorem dX0_describe_13 : decode cX0_describe 13 = .ok (.iload_n 1, 1) := by decide +kernel
theorem dX0_describe_14 : decode cX0_describe 14 = .ok (.iload_n 3, 1) := by decide +kernel
theorem dX0_describe_15 : decode cX0_describe 15 = .ok (.invokevirtual 36, 3) := by decide +kernel
theorem dX0_describe_18 : decode cX0_describe 18 = .ok (.aload_n 0, 1) := by decide +kernel
theorem dX0_describe_19 : decode cX0_describe 19 = .ok (.getfield 23, 3) := by decide +kernel
theorem dX0_describe_22 : decode cX0_describe 22 = .ok (.iload_n 1, 1) := by decide +kernel
theorem dX0_describe_23 : decode cX0_describe 23 = .ok (.iload 4, 2) := by decide +kernel
theorem dX0_describe_25 : decode cX0_describe 25 = .ok (.invokevirtual 36, 3) := by decide +kernel
theorem dX0_describe_28 : decode cX0_describe 28 = .ok (.aload_n 0, 1) := by decide +kernel
theorem dX0_describe_29 : decode cX0_describe 29 = .ok (.getfield 26, 3) := by decide +kernel
theorem dX0_describe_32 : decode cX0_describe 32 = .ok (.iload_n 1, 1) := by decide +kernel
theorem dX0_describe_33 : decode cX0_describe 33 = .ok (.iload 5, 2) := by decide +kernel
theorem dX0_describe_35 : decode cX0_describe 35 = .ok (.invokevirtual 36, 3) := by decide +kernel
theorem dX0_describe_38 : decode cX0_describe 38 = .ok (.return_, 1) := by decide +kernel
theorem dX0_changeDirt_0 : decode cX0_changeDirt 0 = .ok (.aload_n 0, 1) := by decide +kernel
theorem dX0_changeDirt_1 : decode cX0_changeDirt 1 = .ok (.getfield 29, 3) := by decide +kernel
theorem dX0_changeDirt_4 : decode cX0_changeDirt 4 = .ok (.istore_n 2, 1) := by decide +kernel
theorem dX0_changeDirt_5 : decode cX0_changeDirt 5 = .ok (.aload_n 0, 1) := by decide +kernel
theorem dX0_changeDirt_6 : decode cX0_changeDirt 6 = .ok (.iload_n 1, 1) := by decide +kernel
theorem dX0_changeDirt_7 : decode cX0_changeDirt 7 = .ok (.putfield 29, 3) := by decide +kernel
theorem dX0_changeDirt_10 : decode cX0_changeDirt 10 = .ok (.iload_n 2, 1) := by decide +kernel
theorem dX0_changeDirt_11 : decode cX0_changeDirt 11 = .ok (.ireturn, 1) := by decide +kernel
theorem dX0_changeTime_0 : decode cX0_changeTime 0 = .ok (.aload_n 0, 1) := by decide +kernel
theorem dX0_changeTime_1 : decode cX0_changeTime 1 = .ok (.getfield 33, 3) := by decide +kernel
theorem dX0_changeTime_4 : decode cX0_changeTime 4 = .ok (.istore_n 2, 1) := by decide +kernel
theorem dX0_changeTime_5 : decode cX0_changeTime 5 = .ok (.aload_n 0, 1) := by decide +kernel
theorem dX0_changeTime_6 : decode cX0_changeTime 6 = .ok (.iload_n 1, 1) := by decide +kernel
theorem dX0_changeTime_7 : decode cX0_changeTime 7 = .ok (.putfield 33, 3) := by decide +kernel
theorem dX0_changeTime_10 : decode cX0_changeTime 10 = .ok (.iload_n 2, 1) := by decide +kernel
theorem dX0_changeTime_11 : decode cX0_changeTime 11 = .ok (.ireturn, 1) := by decide +kernel
theorem dX0_time_0 : decode cX0_time 0 = .ok (.aload_n 0, 1) := by decide +kernel
theorem dX0_time_1 : decode cX0_time 1 = .ok (.getfield 33, 3) := by decide +kernel
theorem dX0_time_4 : decode cX0_time 4 = .ok (.ireturn, 1) := by decide +kernel
theorem dX0_costAs_0 : decode cX0_costAs 0 = .ok (.iload_n 1, 1) := by decide +kernel
theorem dX0_costAs_1 : decode cX0_costAs 1 = .ok (.bipush 6, 2) := by decide +kernel
theorem dX0_costAs_3 : decode cX0_costAs 3 = .ok (.if_icmp .ne 8, 3) := by decide +kernel
theorem dX0_costAs_6 : decode cX0_costAs 6 = .ok (.aload_n 0, 1) := by decide +kernel
theorem dX0_costAs_7 : decode cX0_costAs 7 = .ok (.getfield 29, 3) := by decide +kernel
theorem dX0_costAs_10 : decode cX0_costAs 10 = .ok (.ireturn, 1) := by decide +kernel
theorem dX0_costAs_11 : decode cX0_costAs 11 = .ok (.iconst 0, 1) := by decide +kernel
theorem dX0_costAs_12 : decode cX0_costAs 12 = .ok (.aload_n 0, 1) := by decide +kernel
theorem dX0_costAs_13 : decode cX0_costAs 13 = .ok (.getfield 16, 3) := by decide +kernel
theorem dX0_costAs_16 : decode cX0_costAs 16 = .ok (.iload_n 1, 1) := by decide +kernel
theorem dX0_costAs_17 : decode cX0_costAs 17 = .ok (.invokevirtual 39, 3) := by decide +kernel
theorem dX0_costAs_20 : decode cX0_costAs 20 = .ok (.iload_n 2, 1) := by decide +kernel
theorem dX0_costAs_21 : decode cX0_costAs 21 = .ok (.isub, 1) := by decide +kernel
theorem dX0_costAs_22 : decode cX0_costAs 22 = .ok (.invokestatic 43, 3) := by decide +kernel
theorem dX0_costAs_25 : decode cX0_costAs 25 = .ok (.istore 4, 2) := by decide +kernel
theorem dX0_costAs_27 : decode cX0_costAs 27 = .ok (.iconst 0, 1) := by decide +kernel
theorem dX0_costAs_28 : decode cX0_costAs 28 = .ok (.iload_n 2, 1) := by decide +kernel
theorem dX0_costAs_29 : decode cX0_costAs 29 = .ok (.aload_n 0, 1) := by decide +kernel
theorem dX0_costAs_30 : decode cX0_costAs 30 = .ok (.getfield 20, 3) := by decide +kernel
theorem dX0_costAs_33 : decode cX0_costAs 33 = .ok (.iload_n 1, 1) := by decide +kernel
theorem dX0_costAs_34 : decode cX0_costAs 34 = .ok (.invokevirtual 39, 3) := by decide +kernel
theorem dX0_costAs_37 : decode cX0_costAs 37 = .ok (.isub, 1) := by decide +kernel
theorem dX0_costAs_38 : decode cX0_costAs 38 = .ok (.invokestatic 43, 3) := by decide +kernel
theorem dX0_costAs_41 : decode cX0_costAs 41 = .ok (.istore 5, 2) := by decide +kernel
theorem dX0_costAs_43 : decode cX0_costAs 43 = .ok (.iconst 0, 1) := by decide +kernel
theorem dX0_costAs_44 : decode cX0_costAs 44 = .ok (.aload_n 0, 1) := by decide +kernel
theorem dX0_costAs_45 : decode cX0_costAs 45 = .ok (.getfield 23, 3) := by decide +kernel
theorem dX0_costAs_48 : decode cX0_costAs 48 = .ok (.iload_n 1, 1) := by decide +kernel
theorem dX0_costAs_49 : decode cX0_costAs 49 = .ok (.invokevirtual 39, 3) := by decide +kernel
theorem dX0_costAs_52 : decode cX0_costAs 52 = .ok (.iload_n 3, 1) := by decide +kernel
theorem dX0_costAs_53 : decode cX0_costAs 53 = .ok (.isub, 1) := by decide +kernel
theorem dX0_costAs_54 : decode cX0_costAs 54 = .ok (.invokestatic 43, 3) := by decide +kernel
theorem dX0_costAs_57 : decode cX0_costAs 57 = .ok (.istore 6, 2) := by decide +kernel
theorem dX0_costAs_59 : decode cX0_costAs 59 = .ok (.aload_n 0, 1) := by decide +kernel
theorem dX0_costAs_60 : decode cX0_costAs 60 = .ok (.getfield 26, 3) := by decide +kernel
theorem dX0_costAs_63 : decode cX0_costAs 63 = .ok (.iload_n 1, 1) := by decide +kernel
theorem dX0_costAs_64 : decode cX0_costAs 64 = .ok (.invokevirtual 39, 3) := by decide +kernel
theorem dX0_costAs_67 : decode cX0_costAs 67 = .ok (.iload 4, 2) := by decide +kernel
theorem dX0_costAs_69 : decode cX0_costAs 69 = .ok (.iadd, 1) := by decide +kernel
theorem dX0_costAs_70 : decode cX0_costAs 70 = .ok (.iload 5, 2) := by decide +kernel
theorem dX0_costAs_72 : decode cX0_costAs 72 = .ok (.iadd, 1) := by decide +kernel
theorem dX0_costAs_73 : decode cX0_costAs 73 = .ok (.iconst 5, 1) := by decide +kernel
theorem dX0_costAs_74 : decode cX0_costAs 74 = .ok (.iload 6, 2) := by decide +kernel
theorem dX0_costAs_76 : decode cX0_costAs 76 = .ok (.imul, 1) := by decide +kernel
theorem dX0_costAs_77 : decode cX0_costAs 77 = .ok (.iadd, 1) := by decide +kernel
theorem dX0_costAs_78 : decode cX0_costAs 78 = .ok (.ireturn, 1) := by decide +kernel
theorem dX1_init_0 : decode cX1_init 0 = .ok (.aload_n 0, 1) := by decide +kernel
theorem dX1_init_1 : decode cX1_init 1 = .ok (.invokespecial 3, 3) := by decide +kernel
theorem dX1_init_4 : decode cX1_init 4 = .ok (.aload_n 0, 1) := by decide +kernel
theorem dX1_init_5 : decode cX1_init 5 = .ok (.new 9, 3) := by decide +kernel
theorem dX1_init_8 : decode cX1_init 8 = .ok (.dup, 1) := by decide +kernel
theorem dX1_init_9 : decode cX1_init 9 = .ok (.bipush 32, 2) := by decide +kernel
theorem dX1_init_11 : decode cX1_init 11 = .ok (.iconst 0, 1) := by decide +kernel
theorem dX1_init_12 : decode cX1_init 12 = .ok (.invokespecial 11, 3) := by decide +kernel
theorem dX1_init_15 : decode cX1_init 15 = .ok (.putfield 14, 3) := by decide +kernel
theorem dX1_init_18 : decode cX1_init 18 = .ok (.aload_n 0, 1) := by decide +kernel
theorem dX1_init_19 : decode cX1_init 19 = .ok (.new 9, 3) := by decide +kernel
theorem dX1_init_22 : decode cX1_init 22 = .ok (.dup, 1) := by decide +kernel
theorem dX1_init_23 : decode cX1_init 23 = .ok (.bipush 32, 2) := by decide +kernel
theorem dX1_init_25 : decode cX1_init 25 = .ok (.iconst 0, 1) := by decide +kernel
theorem dX1_init_26 : decode cX1_init 26 = .ok (.invokespecial 11, 3) := by decide +kernel
theorem dX1_init_29 : decode cX1_init 29 = .ok (.putfield 20, 3) := by decide +kernel
theorem dX1_init_32 : decode cX1_init 32 = .ok (.aload_n 0, 1) := by decide +kernel
theorem dX1_init_33 : decode cX1_init 33 = .ok (.iconst 0, 1) := by decide +kernel
theorem dX1_init_34 : decode cX1_init 34 = .ok (.putfield 23, 3) := by decide +kernel
theorem dX1_init_37 : decode cX1_init 37 = .ok (.aload_n 0, 1) := by decide +kernel
theorem dX1_init_38 : decode cX1_init 38 = .ok (.iconst (-1), 1) := by decide +kernel
theorem dX1_init_39 : decode cX1_init 39 = .ok (.putfield 27, 3) := by decide +kernel
theorem dX1_init_42 : decode cX1_init 42 = .ok (.return_, 1) := by decide +kernel
theorem dX1_look_0 : decode cX1_look 0 = .ok (.aload_n 0, 1) := by decide +kernel
theorem dX1_look_1 : decode cX1_look 1 = .ok (.iconst 0, 1) := by decide +kernel
theorem dX1_look_2 : decode cX1_look 2 = .ok (.putfield 23, 3) := by decide +kernel
theorem dX1_look_5 : decode cX1_look 5 = .ok (.iconst 0, 1) := by decide +kernel
theorem dX1_look_6 : decode cX1_look 6 = .ok (.istore_n 3, 1) := by decide +kernel
theorem dX1_look_7 : decode cX1_look 7 = .ok (.iconst 0, 1) := by decide +kernel
theorem dX1_look_8 : decode cX1_look 8 = .ok (.istore 4, 2) := by decide +kernel
theorem dX1_look_10 : decode cX1_look 10 = .ok (.iload 4, 2) := by decide +kernel
theorem dX1_look_12 : decode cX1_look 12 = .ok (.bipush 32, 2) := by decide +kernel
theorem dX1_look_14 : decode cX1_look 14 = .ok (.if_icmp .ge 76, 3) := by decide +kernel
theorem dX1_look_17 : decode cX1_look 17 = .ok (.aload_n 1, 1) := by decide +kernel
theorem dX1_look_18 : decode cX1_look 18 = .ok (.iload 4, 2) := by decide +kernel
theorem dX1_look_20 : decode cX1_look 20 = .ok (.invokevirtual 30, 3) := by decide +kernel
theorem dX1_look_23 : decode cX1_look 23 = .ok (.iload_n 2, 1) := by decide +kernel
theorem dX1_look_24 : decode cX1_look 24 = .ok (.invokestatic 36, 3) := by decide +kernel
theorem dX1_look_27 : decode cX1_look 27 = .ok (.istore 5, 2) := by decide +kernel
theorem dX1_look_29 : decode cX1_look 29 = .ok (.iload 5, 2) := by decide +kernel
theorem dX1_look_31 : decode cX1_look 31 = .ok (.ifCond .eq 30, 3) := by decide +kernel
theorem dX1_look_34 : decode cX1_look 34 = .ok (.iload_n 3, 1) := by decide +kernel
theorem dX1_look_35 : decode cX1_look 35 = .ok (.ifCond .ne 26, 3) := by decide +kernel
theorem dX1_look_38 : decode cX1_look 38 = .ok (.aload_n 0, 1) := by decide +kernel
theorem dX1_look_39 : decode cX1_look 39 = .ok (.getfield 14, 3) := by decide +kernel
theorem dX1_look_42 : decode cX1_look 42 = .ok (.aload_n 0, 1) := by decide +kernel
theorem dX1_look_43 : decode cX1_look 43 = .ok (.getfield 23, 3) := by decide +kernel
theorem dX1_look_46 : decode cX1_look 46 = .ok (.iload 4, 2) := by decide +kernel
theorem dX1_look_48 : decode cX1_look 48 = .ok (.invokevirtual 40, 3) := by decide +kernel
theorem dX1_look_51 : decode cX1_look 51 = .ok (.aload_n 0, 1) := by decide +kernel
theorem dX1_look_52 : decode cX1_look 52 = .ok (.dup, 1) := by decide +kernel
theorem dX1_look_53 : decode cX1_look 53 = .ok (.getfield 23, 3) := by decide +kernel
theorem dX1_look_56 : decode cX1_look 56 = .ok (.iconst 1, 1) := by decide +kernel
theorem dX1_look_57 : decode cX1_look 57 = .ok (.iadd, 1) := by decide +kernel
theorem dX1_look_58 : decode cX1_look 58 = .ok (.putfield 23, 3) := by decide +kernel
theorem dX1_look_61 : decode cX1_look 61 = .ok (.iload 5, 2) := by decide +kernel
theorem dX1_look_63 : decode cX1_look 63 = .ok (.ifCond .eq 18, 3) := by decide +kernel
theorem dX1_look_66 : decode cX1_look 66 = .ok (.aload_n 0, 1) := by decide +kernel
theorem dX1_look_67 : decode cX1_look 67 = .ok (.getfield 20, 3) := by decide +kernel
theorem dX1_look_70 : decode cX1_look 70 = .ok (.aload_n 0, 1) := by decide +kernel
theorem dX1_look_71 : decode cX1_look 71 = .ok (.getfield 23, 3) := by decide +kernel
theorem dX1_look_74 : decode cX1_look 74 = .ok (.iconst 1, 1) := by decide +kernel
theorem dX1_look_75 : decode cX1_look 75 = .ok (.isub, 1) := by decide +kernel
theorem dX1_look_76 : decode cX1_look 76 = .ok (.iload 4, 2) := by decide +kernel
theorem dX1_look_78 : decode cX1_look 78 = .ok (.invokevirtual 40, 3) := by decide +kernel
theorem dX1_look_81 : decode cX1_look 81 = .ok (.iload 5, 2) := by decide +kernel
theorem dX1_look_83 : decode cX1_look 83 = .ok (.istore_n 3, 1) := by decide +kernel
theorem dX1_look_84 : decode cX1_look 84 = .ok (.iinc 4 1, 3) := by decide +kernel
theorem dX1_look_87 : decode cX1_look 87 = .ok (.goto (-77), 3) := by decide +kernel
theorem dX1_look_90 : decode cX1_look 90 = .ok (.aload_n 0, 1) := by decide +kernel
theorem dX1_look_91 : decode cX1_look 91 = .ok (.aload_n 0, 1) := by decide +kernel
theorem dX1_look_92 : decode cX1_look 92 = .ok (.invokevirtual 43, 3) := by decide +kernel
theorem dX1_look_95 : decode cX1_look 95 = .ok (.putfield 27, 3) := by decide +kernel
theorem dX1_look_98 : decode cX1_look 98 = .ok (.return_, 1) := by decide +kernel
theorem dX1_hasRun_0 : decode cX1_hasRun 0 = .ok (.lload_n 0, 1) := by decide +kernel
theorem dX1_hasRun_1 : decode cX1_hasRun 1 = .ok (.lstore_n 3, 1) := by decide +kernel
theorem dX1_hasRun_2 : decode cX1_hasRun 2 = .ok (.iconst 1, 1) := by decide +kernel
theorem dX1_hasRun_3 : decode cX1_hasRun 3 = .ok (.istore 5, 2) := by decide +kernel
theorem dX1_hasRun_5 : decode cX1_hasRun 5 = .ok (.iload 5, 2) := by decide +kernel
theorem dX1_hasRun_7 : decode cX1_hasRun 7 = .ok (.iload_n 2, 1) := by decide +kernel
theorem dX1_hasRun_8 : decode cX1_hasRun 8 = .ok (.if_icmp .ge 21, 3) := by decide +kernel
theorem dX1_hasRun_11 : decode cX1_hasRun 11 = .ok (.lload_n 3, 1) := by decide +kernel
theorem dX1_hasRun_12 : decode cX1_hasRun 12 = .ok (.lconst 0, 1) := by decide +kernel
theorem dX1_hasRun_13 : decode cX1_hasRun 13 = .ok (.lcmp, 1) := by decide +kernel
theorem dX1_hasRun_14 : decode cX1_hasRun 14 = .ok (.ifCond .eq 15, 3) := by decide +kernel
theorem dX1_hasRun_17 : decode cX1_hasRun 17 = .ok (.lload_n 3, 1) := by decide +kernel
theorem dX1_hasRun_18 : decode cX1_hasRun 18 = .ok (.lload_n 3, 1) := by decide +kernel
theorem dX1_hasRun_19 : decode cX1_hasRun 19 = .ok (.iconst 1, 1) := by decide +kernel
theorem dX1_hasRun_20 : decode cX1_hasRun 20 = .ok (.lushr, 1) := by decide +kernel
theorem dX1_hasRun_21 : decode cX1_hasRun 21 = .ok (.land, 1) := by decide +kernel
theorem dX1_hasRun_22 : decode cX1_hasRun 22 = .ok (.lstore_n 3, 1) := by decide +kernel
theorem dX1_hasRun_23 : decode cX1_hasRun 23 = .ok (.iinc 5 1, 3) := by decide +kernel
theorem dX1_hasRun_26 : decode cX1_hasRun 26 = .ok (.goto (-21), 3) := by decide +kernel
theorem dX1_hasRun_29 : decode cX1_hasRun 29 = .ok (.lload_n 3, 1) := by decide +kernel
theorem dX1_hasRun_30 : decode cX1_hasRun 30 = .ok (.lconst 0, 1) := by decide +kernel
theorem dX1_hasRun_31 : decode cX1_hasRun 31 = .ok (.lcmp, 1) := by decide +kernel
theorem dX1_hasRun_32 : decode cX1_hasRun 32 = .ok (.ifCond .eq 7, 3) := by decide +kernel
theorem dX1_hasRun_35 : decode cX1_hasRun 35 = .ok (.iconst 1, 1) := by decide +kernel
theorem dX1_hasRun_36 : decode cX1_hasRun 36 = .ok (.goto 4, 3) := by decide +kernel
theorem dX1_hasRun_39 : decode cX1_hasRun 39 = .ok (.iconst 0, 1) := by decide +kernel
theorem dX1_hasRun_40 : decode cX1_hasRun 40 = .ok (.ireturn, 1) := by decide +kernel
theorem dX1_firstStaff_0 : decode cX1_firstStaff 0 = .ok (.iconst 0, 1) := by decide +kernel
theorem dX1_firstStaff_1 : decode cX1_firstStaff 1 = .ok (.istore_n 1, 1) := by decide +kernel
theorem dX1_firstStaff_2 : decode cX1_firstStaff 2 = .ok (.iload_n 1, 1) := by decide +kernel
theorem dX1_firstStaff_3 : decode cX1_firstStaff 3 = .ok (.iconst 5, 1) := by decide +kernel
theorem dX1_firstStaff_4 : decode cX1_firstStaff 4 = .ok (.iadd, 1) := by decide +kernel
theorem dX1_firstStaff_5 : decode cX1_firstStaff 5 = .ok (.aload_n 0, 1) := by decide +kernel
theorem dX1_firstStaff_6 : decode cX1_firstStaff 6 = .ok (.getfield 23, 3) := by decide +kernel
theorem dX1_firstStaff_9 : decode cX1_firstStaff 9 = .ok (.if_icmp .gt 19, 3) := by decide +kernel
theorem dX1_firstStaff_12 : decode cX1_firstStaff 12 = .ok (.aload_n 0, 1) := by decide +kernel
theorem dX1_firstStaff_13 : decode cX1_firstStaff 13 = .ok (.iload_n 1, 1) := by decide +kernel
theorem dX1_firstStaff_14 : decode cX1_firstStaff 14 = .ok (.invokevirtual 47, 3) := by decide +kernel
theorem dX1_firstStaff_17 : decode cX1_firstStaff 17 = .ok (.ifCond .eq 5, 3) := by decide +kernel
theorem dX1_firstStaff_20 : decode cX1_firstStaff 20 = .ok (.iload_n 1, 1) := by decide +kernel
theorem dX1_firstStaff_21 : decode cX1_firstStaff 21 = .ok (.ireturn, 1) := by decide +kernel
theorem dX1_firstStaff_22 : decode cX1_firstStaff 22 = .ok (.iinc 1 1, 3) := by decide +kernel
theorem dX1_firstStaff_25 : decode cX1_firstStaff 25 = .ok (.goto (-23), 3) := by decide +kernel
theorem dX1_firstStaff_28 : decode cX1_firstStaff 28 = .ok (.iconst (-1), 1) := by decide +kernel
theorem dX1_firstStaff_29 : decode cX1_firstStaff 29 = .ok (.ireturn, 1) := by decide +kernel
theorem dX1_isEven_0 : decode cX1_isEven 0 = .ok (.bipush 32, 2) := by decide +kernel
theorem dX1_isEven_2 : decode cX1_isEven 2 = .ok (.istore_n 2, 1) := by decide +kernel
theorem dX1_isEven_3 : decode cX1_isEven 3 = .ok (.iconst 0, 1) := by decide +kernel
theorem dX1_isEven_4 : decode cX1_isEven 4 = .ok (.istore_n 3, 1) := by decide +kernel
theorem dX1_isEven_5 : decode cX1_isEven 5 = .ok (.iload_n 1, 1) := by decide +kernel
theorem dX1_isEven_6 : decode cX1_isEven 6 = .ok (.istore 4, 2) := by decide +kernel
theorem dX1_isEven_8 : decode cX1_isEven 8 = .ok (.iload 4, 2) := by decide +kernel
theorem dX1_isEven_10 : decode cX1_isEven 10 = .ok (.iload_n 1, 1) := by decide +kernel
theorem dX1_isEven_11 : decode cX1_isEven 11 = .ok (.iconst 5, 1) := by decide +kernel
theorem dX1_isEven_12 : decode cX1_isEven 12 = .ok (.iadd, 1) := by decide +kernel
theorem dX1_isEven_13 : decode cX1_isEven 13 = .ok (.iconst 1, 1) := by decide +kernel
theorem dX1_isEven_14 : decode cX1_isEven 14 = .ok (.isub, 1) := by decide +kernel
theorem dX1_isEven_15 : decode cX1_isEven 15 = .ok (.if_icmp .ge 31, 3) := by decide +kernel
theorem dX1_isEven_18 : decode cX1_isEven 18 = .ok (.iload_n 2, 1) := by decide +kernel
theorem dX1_isEven_19 : decode cX1_isEven 19 = .ok (.aload_n 0, 1) := by decide +kernel
theorem dX1_isEven_20 : decode cX1_isEven 20 = .ok (.iload 4, 2) := by decide +kernel
theorem dX1_isEven_22 : decode cX1_isEven 22 = .ok (.invokevirtual 51, 3) := by decide +kernel
theorem dX1_isEven_25 : decode cX1_isEven 25 = .ok (.invokestatic 55, 3) := by decide +kernel
theorem dX1_isEven_28 : decode cX1_isEven 28 = .ok (.istore_n 2, 1) := by decide +kernel
theorem dX1_isEven_29 : decode cX1_isEven 29 = .ok (.iload_n 3, 1) := by decide +kernel
theorem dX1_isEven_30 : decode cX1_isEven 30 = .ok (.aload_n 0, 1) := by decide +kernel
theorem dX1_isEven_31 : decode cX1_isEven 31 = .ok (.iload 4, 2) := by decide +kernel
theorem dX1_isEven_33 : decode cX1_isEven 33 = .ok (.invokevirtual 51, 3) := by decide +kernel
theorem dX1_isEven_36 : decode cX1_isEven 36 = .ok (.invokestatic 61, 3) := by decide +kernel
theorem dX1_isEven_39 : decode cX1_isEven 39 = .ok (.istore_n 3, 1) := by decide +kernel
theorem dX1_isEven_40 : decode cX1_isEven 40 = .ok (.iinc 4 1, 3) := by decide +kernel
theorem dX1_isEven_43 : decode cX1_isEven 43 = .ok (.goto (-35), 3) := by decide +kernel
theorem dX1_isEven_46 : decode cX1_isEven 46 = .ok (.iload_n 3, 1) := by decide +kernel
theorem dX1_isEven_47 : decode cX1_isEven 47 = .ok (.iload_n 2, 1) := by decide +kernel
theorem dX1_isEven_48 : decode cX1_isEven 48 = .ok (.isub, 1) := by decide +kernel
theorem dX1_isEven_49 : decode cX1_isEven 49 = .ok (.iconst 1, 1) := by decide +kernel
theorem dX1_isEven_50 : decode cX1_isEven 50 = .ok (.if_icmp .gt 7, 3) := by decide +kernel
theorem dX1_isEven_53 : decode cX1_isEven 53 = .ok (.iconst 1, 1) := by decide +kernel
theorem dX1_isEven_54 : decode cX1_isEven 54 = .ok (.goto 4, 3) := by decide +kernel
theorem dX1_isEven_57 : decode cX1_isEven 57 = .ok (.iconst 0, 1) := by decide +kernel
theorem dX1_isEven_58 : decode cX1_isEven 58 = .ok (.ireturn, 1) := by decide +kernel
theorem dX1_gapBehind_0 : decode cX1_gapBehind 0 = .ok (.aload_n 0, 1) := by decide +kernel
theorem dX1_gapBehind_1 : decode cX1_gapBehind 1 = .ok (.getfield 14, 3) := by decide +kernel
theorem dX1_gapBehind_4 : decode cX1_gapBehind 4 = .ok (.iload_n 1, 1) := by decide +kernel
theorem dX1_gapBehind_5 : decode cX1_gapBehind 5 = .ok (.iconst 1, 1) := by decide +kernel
theorem dX1_gapBehind_6 : decode cX1_gapBehind 6 = .ok (.iadd, 1) := by decide +kernel
theorem dX1_gapBehind_7 : decode cX1_gapBehind 7 = .ok (.invokevirtual 64, 3) := by decide +kernel
theorem dX1_gapBehind_10 : decode cX1_gapBehind 10 = .ok (.aload_n 0, 1) := by decide +kernel
theorem dX1_gapBehind_11 : decode cX1_gapBehind 11 = .ok (.getfield 14, 3) := by decide +kernel
theorem dX1_gapBehind_14 : decode cX1_gapBehind 14 = .ok (.iload_n 1, 1) := by decide +kernel
theorem dX1_gapBehind_15 : decode cX1_gapBehind 15 = .ok (.invokevirtual 64, 3) := by decide +kernel
theorem dX1_gapBehind_18 : decode cX1_gapBehind 18 = .ok (.isub, 1) := by decide +kernel
theorem dX1_gapBehind_19 : decode cX1_gapBehind 19 = .ok (.ireturn, 1) := by decide +kernel
theorem dX1_size_0 : decode cX1_size 0 = .ok (.aload_n 0, 1) := by decide +kernel
theorem dX1_size_1 : decode cX1_size 1 = .ok (.getfield 23, 3) := by decide +kernel
theorem dX1_size_4 : decode cX1_size 4 = .ok (.ireturn, 1) := by decide +kernel
theorem dX1_hasStaff_0 : decode cX1_hasStaff 0 = .ok (.aload_n 0, 1) := by decide +kernel
theorem dX1_hasStaff_1 : decode cX1_hasStaff 1 = .ok (.getfield 27, 3) := by decide +kernel
theorem dX1_hasStaff_4 : decode cX1_hasStaff 4 = .ok (.iconst (-1), 1) := by decide +kernel
theorem dX1_hasStaff_5 : decode cX1_hasStaff 5 = .ok (.if_icmp .eq 7, 3) := by decide +kernel
theorem dX1_hasStaff_8 : decode cX1_hasStaff 8 = .ok (.iconst 1, 1) := by decide +kernel
theorem dX1_hasStaff_9 : decode cX1_hasStaff 9 = .ok (.goto 4, 3) := by decide +kernel
theorem dX1_hasStaff_12 : decode cX1_hasStaff 12 = .ok (.iconst 0, 1) := by decide +kernel
theorem dX1_hasStaff_13 : decode cX1_hasStaff 13 = .ok (.ireturn, 1) := by decide +kernel
theorem dX1_gap_0 : decode cX1_gap 0 = .ok (.aload_n 0, 1) := by decide +kernel
theorem dX1_gap_1 : decode cX1_gap 1 = .ok (.invokevirtual 67, 3) := by decide +kernel
theorem dX1_gap_4 : decode cX1_gap 4 = .ok (.ifCond .eq 14, 3) := by decide +kernel
theorem dX1_gap_7 : decode cX1_gap 7 = .ok (.aload_n 0, 1) := by decide +kernel
theorem dX1_gap_8 : decode cX1_gap 8 = .ok (.aload_n 0, 1) := by decide +kernel
theorem dX1_gap_9 : decode cX1_gap 9 = .ok (.getfield 27, 3) := by decide +kernel
theorem dX1_gap_12 : decode cX1_gap 12 = .ok (.invokevirtual 51, 3) := by decide +kernel
theorem dX1_gap_15 : decode cX1_gap 15 = .ok (.goto 4, 3) := by decide +kernel
theorem dX1_gap_18 : decode cX1_gap 18 = .ok (.iconst (-1), 1) := by decide +kernel
theorem dX1_gap_19 : decode cX1_gap 19 = .ok (.ireturn, 1) := by decide +kernel
theorem dX1_firstRow_0 : decode cX1_firstRow 0 = .ok (.aload_n 0, 1) := by decide +kernel
theorem dX1_firstRow_1 : decode cX1_firstRow 1 = .ok (.getfield 14, 3) := by decide +kernel
theorem dX1_firstRow_4 : decode cX1_firstRow 4 = .ok (.aload_n 0, 1) := by decide +kernel
theorem dX1_firstRow_5 : decode cX1_firstRow 5 = .ok (.getfield 27, 3) := by decide +kernel
theorem dX1_firstRow_8 : decode cX1_firstRow 8 = .ok (.iload_n 1, 1) := by decide +kernel
theorem dX1_firstRow_9 : decode cX1_firstRow 9 = .ok (.iadd, 1) := by decide +kernel
theorem dX1_firstRow_10 : decode cX1_firstRow 10 = .ok (.invokevirtual 64, 3) := by decide +kernel
theorem dX1_firstRow_13 : decode cX1_firstRow 13 = .ok (.ireturn, 1) := by decide +kernel
theorem dX1_lastRow_0 : decode cX1_lastRow 0 = .ok (.aload_n 0, 1) := by decide +kernel
theorem dX1_lastRow_1 : decode cX1_lastRow 1 = .ok (.getfield 20, 3) := by decide +kernel
theorem dX1_lastRow_4 : decode cX1_lastRow 4 = .ok (.aload_n 0, 1) := by decide +kernel
theorem dX1_lastRow_5 : decode cX1_lastRow 5 = .ok (.getfield 27, 3) := by decide +kernel
theorem dX1_lastRow_8 : decode cX1_lastRow 8 = .ok (.iload_n 1, 1) := by decide +kernel
theorem dX1_lastRow_9 : decode cX1_lastRow 9 = .ok (.iadd, 1) := by decide +kernel
theorem dX1_lastRow_10 : decode cX1_lastRow 10 = .ok (.invokevirtual 64, 3) := by decide +kernel
theorem dX1_lastRow_13 : decode cX1_lastRow 13 = .ok (.ireturn, 1) := by decide +kernel
theorem dX1_stepAt_0 : decode cX1_stepAt 0 = .ok (.aload_n 0, 1) := by decide +kernel
theorem dX1_stepAt_1 : decode cX1_stepAt 1 = .ok (.invokevirtual 71, 3) := by decide +kernel
theorem dX1_stepAt_4 : decode cX1_stepAt 4 = .ok (.istore_n 2, 1) := by decide +kernel
theorem dX1_stepAt_5 : decode cX1_stepAt 5 = .ok (.iload_n 2, 1) := by decide +kernel
theorem dX1_stepAt_6 : decode cX1_stepAt 6 = .ok (.iconst 1, 1) := by decide +kernel
theorem dX1_stepAt_7 : decode cX1_stepAt 7 = .ok (.if_icmp .ge 7, 3) := by decide +kernel
theorem dX1_stepAt_10 : decode cX1_stepAt 10 = .ok (.sipush (-1001), 3) := by decide +kernel
theorem dX1_stepAt_13 : decode cX1_stepAt 13 = .ok (.ireturn, 1) := by decide +kernel
theorem dX1_stepAt_14 : decode cX1_stepAt 14 = .ok (.iconst 2, 1) := by decide +kernel
theorem dX1_stepAt_15 : decode cX1_stepAt 15 = .ok (.aload_n 0, 1) := by decide +kernel
theorem dX1_stepAt_16 : decode cX1_stepAt 16 = .ok (.iconst 4, 1) := by decide +kernel
theorem dX1_stepAt_17 : decode cX1_stepAt 17 = .ok (.invokevirtual 74, 3) := by decide +kernel
theorem dX1_stepAt_20 : decode cX1_stepAt 20 = .ok (.iload_n 1, 1) := by decide +kernel
theorem dX1_stepAt_21 : decode cX1_stepAt 21 = .ok (.isub, 1) := by decide +kernel
theorem dX1_stepAt_22 : decode cX1_stepAt 22 = .ok (.imul, 1) := by decide +kernel
theorem dX1_stepAt_23 : decode cX1_stepAt 23 = .ok (.iload_n 2, 1) := by decide +kernel
theorem dX1_stepAt_24 : decode cX1_stepAt 24 = .ok (.invokestatic 77, 3) := by decide +kernel
theorem dX1_stepAt_27 : decode cX1_stepAt 27 = .ok (.ireturn, 1) := by decide +kernel
theorem dX1_takeOff_0 : decode cX1_takeOff 0 = .ok (.aload_n 0, 1) := by decide +kernel
theorem dX1_takeOff_1 : decode cX1_takeOff 1 = .ok (.invokevirtual 67, 3) := by decide +kernel
theorem dX1_takeOff_4 : decode cX1_takeOff 4 = .ok (.ifCond .ne 4, 3) := by decide +kernel
theorem dX1_takeOff_7 : decode cX1_takeOff 7 = .ok (.return_, 1) := by decide +kernel
theorem dX1_takeOff_8 : decode cX1_takeOff 8 = .ok (.iconst 0, 1) := by decide +kernel
theorem dX1_takeOff_9 : decode cX1_takeOff 9 = .ok (.istore_n 2, 1) := by decide +kernel
theorem dX1_takeOff_10 : decode cX1_takeOff 10 = .ok (.iload_n 2, 1) := by decide +kernel
theorem dX1_takeOff_11 : decode cX1_takeOff 11 = .ok (.iconst 5, 1) := by decide +kernel
theorem dX1_takeOff_12 : decode cX1_takeOff 12 = .ok (.if_icmp .ge 77, 3) := by decide +kernel
theorem dX1_takeOff_15 : decode cX1_takeOff 15 = .ok (.aload_n 1, 1) := by decide +kernel
theorem dX1_takeOff_16 : decode cX1_takeOff 16 = .ok (.aload_n 0, 1) := by decide +kernel
theorem dX1_takeOff_17 : decode cX1_takeOff 17 = .ok (.iload_n 2, 1) := by decide +kernel
theorem dX1_takeOff_18 : decode cX1_takeOff 18 = .ok (.invokevirtual 80, 3) := by decide +kernel
theorem dX1_takeOff_21 : decode cX1_takeOff 21 = .ok (.iconst 1, 1) := by decide +kernel
theorem dX1_takeOff_22 : decode cX1_takeOff 22 = .ok (.isub, 1) := by decide +kernel
theorem dX1_takeOff_23 : decode cX1_takeOff 23 = .ok (.invokevirtual 30, 3) := by decide +kernel
theorem dX1_takeOff_26 : decode cX1_takeOff 26 = .ok (.aload_n 1, 1) := by decide +kernel
theorem dX1_takeOff_27 : decode cX1_takeOff 27 = .ok (.aload_n 0, 1) := by decide +kernel
theorem dX1_takeOff_28 : decode cX1_takeOff 28 = .ok (.iload_n 2, 1) := by decide +kernel
theorem dX1_takeOff_29 : decode cX1_takeOff 29 = .ok (.invokevirtual 74, 3) := by decide +kernel
theorem dX1_takeOff_32 : decode cX1_takeOff 32 = .ok (.iconst 1, 1) := by decide +kernel
theorem dX1_takeOff_33 : decode cX1_takeOff 33 = .ok (.iadd, 1) := by decide +kernel
theorem dX1_takeOff_34 : decode cX1_takeOff 34 = .ok (.invokevirtual 30, 3) := by decide +kernel
theorem dX1_takeOff_37 : decode cX1_takeOff 37 = .ok (.lor, 1) := by decide +kernel
theorem dX1_takeOff_38 : decode cX1_takeOff 38 = .ok (.lstore_n 3, 1) := by decide +kernel
theorem dX1_takeOff_39 : decode cX1_takeOff 39 = .ok (.aload_n 0, 1) := by decide +kernel
theorem dX1_takeOff_40 : decode cX1_takeOff 40 = .ok (.iload_n 2, 1) := by decide +kernel
theorem dX1_takeOff_41 : decode cX1_takeOff 41 = .ok (.invokevirtual 80, 3) := by decide +kernel
theorem dX1_takeOff_44 : decode cX1_takeOff 44 = .ok (.istore 5, 2) := by decide +kernel
theorem dX1_takeOff_46 : decode cX1_takeOff 46 = .ok (.iload 5, 2) := by decide +kernel
theorem dX1_takeOff_48 : decode cX1_takeOff 48 = .ok (.aload_n 0, 1) := by decide +kernel
theorem dX1_takeOff_49 : decode cX1_takeOff 49 = .ok (.iload_n 2, 1) := by decide +kernel
theorem dX1_takeOff_50 : decode cX1_takeOff 50 = .ok (.invokevirtual 74, 3) := by decide +kernel
theorem dX1_takeOff_53 : decode cX1_takeOff 53 = .ok (.if_icmp .gt 30, 3) := by decide +kernel
theorem dX1_takeOff_56 : decode cX1_takeOff 56 = .ok (.iload 5, 2) := by decide +kernel
theorem dX1_takeOff_58 : decode cX1_takeOff 58 = .ok (.bipush 32, 2) := by decide +kernel
theorem dX1_takeOff_60 : decode cX1_takeOff 60 = .ok (.if_icmp .ge 23, 3) := by decide +kernel
theorem dX1_takeOff_63 : decode cX1_takeOff 63 = .ok (.aload_n 1, 1) := by decide +kernel
theorem dX1_takeOff_64 : decode cX1_takeOff 64 = .ok (.iload 5, 2) := by decide +kernel
theorem dX1_takeOff_66 : decode cX1_takeOff 66 = .ok (.aload_n 1, 1) := by decide +kernel
theorem dX1_takeOff_67 : decode cX1_takeOff 67 = .ok (.iload 5, 2) := by decide +kernel
theorem dX1_takeOff_69 : decode cX1_takeOff 69 = .ok (.invokevirtual 30, 3) := by decide +kernel
theorem dX1_takeOff_72 : decode cX1_takeOff 72 = .ok (.lload_n 3, 1) := by decide +kernel
theorem dX1_takeOff_73 : decode cX1_takeOff 73 = .ok (.land, 1) := by decide +kernel
theorem dX1_takeOff_74 : decode cX1_takeOff 74 = .ok (.invokevirtual 83, 3) := by decide +kernel
theorem dX1_takeOff_77 : decode cX1_takeOff 77 = .ok (.iinc 5 1, 3) := by decide +kernel
theorem dX1_takeOff_80 : decode cX1_takeOff 80 = .ok (.goto (-34), 3) := by decide +kernel
theorem dX1_takeOff_83 : decode cX1_takeOff 83 = .ok (.iinc 2 1, 3) := by decide +kernel
theorem dX1_takeOff_86 : decode cX1_takeOff 86 = .ok (.goto (-76), 3) := by decide +kernel
theorem dX1_takeOff_89 : decode cX1_takeOff 89 = .ok (.return_, 1) := by decide +kernel
theorem dX2_init_0 : decode cX2_init 0 = .ok (.aload_n 0, 1) := by decide +kernel
theorem dX2_init_1 : decode cX2_init 1 = .ok (.invokespecial 5, 3) := by decide +kernel
theorem dX2_init_4 : decode cX2_init 4 = .ok (.aload_n 0, 1) := by decide +kernel
theorem dX2_init_5 : decode cX2_init 5 = .ok (.new 11, 3) := by decide +kernel
theorem dX2_init_8 : decode cX2_init 8 = .ok (.dup, 1) := by decide +kernel
theorem dX2_init_9 : decode cX2_init 9 = .ok (.sipush 280, 3) := by decide +kernel
theorem dX2_init_12 : decode cX2_init 12 = .ok (.iconst 0, 1) := by decide +kernel
theorem dX2_init_13 : decode cX2_init 13 = .ok (.invokespecial 13, 3) := by decide +kernel
theorem dX2_init_16 : decode cX2_init 16 = .ok (.putfield 16, 3) := by decide +kernel
theorem dX2_init_19 : decode cX2_init 19 = .ok (.aload_n 0, 1) := by decide +kernel
theorem dX2_init_20 : decode cX2_init 20 = .ok (.new 11, 3) := by decide +kernel
theorem dX2_init_23 : decode cX2_init 23 = .ok (.dup, 1) := by decide +kernel
theorem dX2_init_24 : decode cX2_init 24 = .ok (.sipush 525, 3) := by decide +kernel
theorem dX2_init_27 : decode cX2_init 27 = .ok (.iconst (-1), 1) := by decide +kernel
theorem dX2_init_28 : decode cX2_init 28 = .ok (.invokespecial 13, 3) := by decide +kernel
theorem dX2_init_31 : decode cX2_init 31 = .ok (.putfield 20, 3) := by decide +kernel
theorem dX2_init_34 : decode cX2_init 34 = .ok (.aload_n 0, 1) := by decide +kernel
theorem dX2_init_35 : decode cX2_init 35 = .ok (.new 11, 3) := by decide +kernel
theorem dX2_init_38 : decode cX2_init 38 = .ok (.dup, 1) := by decide +kernel
theorem dX2_init_39 : decode cX2_init 39 = .ok (.sipush 3075, 3) := by decide +kernel
theorem dX2_init_42 : decode cX2_init 42 = .ok (.ldc 23, 2) := by decide +kernel
theorem dX2_init_44 : decode cX2_init 44 = .ok (.invokespecial 13, 3) := by decide +kernel
theorem dX2_init_47 : decode cX2_init 47 = .ok (.putfield 24, 3) := by decide +kernel
theorem dX2_init_50 : decode cX2_init 50 = .ok (.aload_n 0, 1) := by decide +kernel
theorem dX2_init_51 : decode cX2_init 51 = .ok (.new 11, 3) := by decide +kernel
theorem dX2_init_54 : decode cX2_init 54 = .ok (.dup, 1) := by decide +kernel
theorem dX2_init_55 : decode cX2_init 55 = .ok (.bipush 75, 2) := by decide +kernel
theorem dX2_init_57 : decode cX2_init 57 = .ok (.ldc 23, 2) := by decide +kernel
theorem dX2_init_59 : decode cX2_init 59 = .ok (.invokespecial 13, 3) := by decide +kernel
theorem dX2_init_62 : decode cX2_init 62 = .ok (.putfield 27, 3) := by decide +kernel
theorem dX2_init_65 : decode cX2_init 65 = .ok (.aload_n 0, 1) := by decide +kernel
theorem dX2_init_66 : decode cX2_init 66 = .ok (.new 11, 3) := by decide +kernel
theorem dX2_init_69 : decode cX2_init 69 = .ok (.dup, 1) := by decide +kernel
theorem dX2_init_70 : decode cX2_init 70 = .ok (.bipush 75, 2) := by decide +kernel
theorem dX2_init_72 : decode cX2_init 72 = .ok (.ldc 23, 2) := by decide +kernel
theorem dX2_init_74 : decode cX2_init 74 = .ok (.invokespecial 13, 3) := by decide +kernel
theorem dX2_init_77 : decode cX2_init 77 = .ok (.putfield 30, 3) := by decide +kernel
theorem dX2_init_80 : decode cX2_init 80 = .ok (.aload_n 0, 1) := by decide +kernel
theorem dX2_init_81 : decode cX2_init 81 = .ok (.new 11, 3) := by decide +kernel
theorem dX2_init_84 : decode cX2_init 84 = .ok (.dup, 1) := by decide +kernel
theorem dX2_init_85 : decode cX2_init 85 = .ok (.bipush 40, 2) := by decide +kernel
theorem dX2_init_87 : decode cX2_init 87 = .ok (.bipush 6, 2) := by decide +kernel
theorem dX2_init_89 : decode cX2_init 89 = .ok (.invokespecial 13, 3) := by decide +kernel
theorem dX2_init_92 : decode cX2_init 92 = .ok (.putfield 33, 3) := by decide +kernel
theorem dX2_init_95 : decode cX2_init 95 = .ok (.aload_n 0, 1) := by decide +kernel
theorem dX2_init_96 : decode cX2_init 96 = .ok (.new 11, 3) := by decide +kernel
theorem dX2_init_99 : decode cX2_init 99 = .ok (.dup, 1) := by decide +kernel
theorem dX2_init_100 : decode cX2_init 100 = .ok (.bipush 40, 2) := by decide +kernel
theorem dX2_init_102 : decode cX2_init 102 = .ok (.iconst (-1), 1) := by decide +kernel
theorem dX2_init_103 : decode cX2_init 103 = .ok (.invokespecial 13, 3) := by decide +kernel
theorem dX2_init_106 : decode cX2_init 106 = .ok (.putfield 36, 3) := by decide +kernel
theorem dX2_init_109 : decode cX2_init 109 = .ok (.aload_n 0, 1) := by decide +kernel
theorem dX2_init_110 : decode cX2_init 110 = .ok (.new 11, 3) := by decide +kernel
theorem dX2_init_113 : decode cX2_init 113 = .ok (.dup, 1) := by decide +kernel
theorem dX2_init_114 : decode cX2_init 114 = .ok (.bipush 40, 2) := by decide +kernel
theorem dX2_init_116 : decode cX2_init 116 = .ok (.iconst (-1), 1) := by decide +kernel
theorem dX2_init_117 : decode cX2_init 117 = .ok (.invokespecial 13, 3) := by decide +kernel
theorem dX2_init_120 : decode cX2_init 120 = .ok (.putfield 39, 3) := by decide +kernel
theorem dX2_init_123 : decode cX2_init 123 = .ok (.aload_n 0, 1) := by decide +kernel
theorem dX2_init_124 : decode cX2_init 124 = .ok (.new 11, 3) := by decide +kernel
theorem dX2_init_127 : decode cX2_init 127 = .ok (.dup, 1) := by decide +kernel
theorem dX2_init_128 : decode cX2_init 128 = .ok (.bipush 40, 2) := by decide +kernel
theorem dX2_init_130 : decode cX2_init 130 = .ok (.iconst 0, 1) := by decide +kernel
theorem dX2_init_131 : decode cX2_init 131 = .ok (.invokespecial 13, 3) := by decide +kernel
theorem dX2_init_134 : decode cX2_init 134 = .ok (.putfield 42, 3) := by decide +kernel
theorem dX2_init_137 : decode cX2_init 137 = .ok (.aload_n 0, 1) := by decide +kernel
theorem dX2_init_138 : decode cX2_init 138 = .ok (.iconst 0, 1) := by decide +kernel
theorem dX2_init_139 : decode cX2_init 139 = .ok (.putfield 45, 3) := by decide +kernel
theorem dX2_init_142 : decode cX2_init 142 = .ok (.aload_n 0, 1) := by decide +kernel
theorem dX2_init_143 : decode cX2_init 143 = .ok (.iconst 0, 1) := by decide +kernel
theorem dX2_init_144 : decode cX2_init 144 = .ok (.putfield 49, 3) := by decide +kernel
theorem dX2_init_147 : decode cX2_init 147 = .ok (.aload_n 0, 1) := by decide +kernel
theorem dX2_init_148 : decode cX2_init 148 = .ok (.ldc 23, 2) := by decide +kernel
theorem dX2_init_150 : decode cX2_init 150 = .ok (.putfield 52, 3) := by decide +kernel
theorem dX2_init_153 : decode cX2_init 153 = .ok (.aload_n 0, 1) := by decide +kernel
theorem dX2_init_154 : decode cX2_init 154 = .ok (.iconst 0, 1) := by decide +kernel
theorem dX2_init_155 : decode cX2_init 155 = .ok (.putfield 55, 3) := by decide +kernel
theorem dX2_init_158 : decode cX2_init 158 = .ok (.aload_n 0, 1) := by decide +kernel
theorem dX2_init_159 : decode cX2_init 159 = .ok (.iconst 1, 1) := by decide +kernel
theorem dX2_init_160 : decode cX2_init 160 = .ok (.putfield 58, 3) := by decide +kernel
theorem dX2_init_163 : decode cX2_init 163 = .ok (.return_, 1) := by decide +kernel
theorem dX2_work_0 : decode cX2_work 0 = .ok (.aload_n 0, 1) := by decide +kernel
theorem dX2_work_1 : decode cX2_work 1 = .ok (.aload_n 1, 1) := by decide +kernel
theorem dX2_work_2 : decode cX2_work 2 = .ok (.invokevirtual 62, 3) := by decide +kernel
theorem dX2_work_5 : decode cX2_work 5 = .ok (.putfield 45, 3) := by decide +kernel
theorem dX2_work_8 : decode cX2_work 8 = .ok (.aload_n 0, 1) := by decide +kernel
theorem dX2_work_9 : decode cX2_work 9 = .ok (.aload_n 1, 1) := by decide +kernel
theorem dX2_work_10 : decode cX2_work 10 = .ok (.aload_n 2, 1) := by decide +kernel
theorem dX2_work_11 : decode cX2_work 11 = .ok (.invokevirtual 67, 3) := by decide +kernel
theorem dX2_work_14 : decode cX2_work 14 = .ok (.aload_n 0, 1) := by decide +kernel
theorem dX2_work_15 : decode cX2_work 15 = .ok (.aload_n 2, 1) := by decide +kernel
theorem dX2_work_16 : decode cX2_work 16 = .ok (.invokevirtual 71, 3) := by decide +kernel
theorem dX2_work_19 : decode cX2_work 19 = .ok (.invokevirtual 76, 3) := by decide +kernel
theorem dX2_work_22 : decode cX2_work 22 = .ok (.aload_n 0, 1) := by decide +kernel
theorem dX2_work_23 : decode cX2_work 23 = .ok (.aload_n 2, 1) := by decide +kernel
theorem dX2_work_24 : decode cX2_work 24 = .ok (.invokevirtual 71, 3) := by decide +kernel
theorem dX2_work_27 : decode cX2_work 27 = .ok (.invokevirtual 80, 3) := by decide +kernel
theorem dX2_work_30 : decode cX2_work 30 = .ok (.aload_n 0, 1) := by decide +kernel
theorem dX2_work_31 : decode cX2_work 31 = .ok (.aload_n 0, 1) := by decide +kernel
theorem dX2_work_32 : decode cX2_work 32 = .ok (.getfield 24, 3) := by decide +kernel
theorem dX2_work_35 : decode cX2_work 35 = .ok (.iconst 0, 1) := by decide +kernel
theorem dX2_work_36 : decode cX2_work 36 = .ok (.invokevirtual 83, 3) := by decide +kernel
theorem dX2_work_39 : decode cX2_work 39 = .ok (.putfield 52, 3) := by decide +kernel
theorem dX2_work_42 : decode cX2_work 42 = .ok (.aload_n 0, 1) := by decide +kernel
theorem dX2_work_43 : decode cX2_work 43 = .ok (.iconst 1, 1) := by decide +kernel
theorem dX2_work_44 : decode cX2_work 44 = .ok (.putfield 58, 3) := by decide +kernel
theorem dX2_work_47 : decode cX2_work 47 = .ok (.aload_n 0, 1) := by decide +kernel
theorem dX2_work_48 : decode cX2_work 48 = .ok (.invokevirtual 87, 3) := by decide +kernel
theorem dX2_work_51 : decode cX2_work 51 = .ok (.ifCond .eq 11, 3) := by decide +kernel
theorem dX2_work_54 : decode cX2_work 54 = .ok (.aload_n 0, 1) := by decide +kernel
theorem dX2_work_55 : decode cX2_work 55 = .ok (.invokevirtual 91, 3) := by decide +kernel
theorem dX2_work_58 : decode cX2_work 58 = .ok (.aload_n 0, 1) := by decide +kernel
theorem dX2_work_59 : decode cX2_work 59 = .ok (.invokevirtual 94, 3) := by decide +kernel
theorem dX2_work_62 : decode cX2_work 62 = .ok (.return_, 1) := by decide +kernel
theorem dX2_weigh_0 : decode cX2_weigh 0 = .ok (.iconst 0, 1) := by decide +kernel
theorem dX2_weigh_1 : decode cX2_weigh 1 = .ok (.istore_n 3, 1) := by decide +kernel
theorem dX2_weigh_2 : decode cX2_weigh 2 = .ok (.iload_n 3, 1) := by decide +kernel
theorem dX2_weigh_3 : decode cX2_weigh 3 = .ok (.aload_n 0, 1) := by decide +kernel
theorem dX2_weigh_4 : decode cX2_weigh 4 = .ok (.getfield 45, 3) := by decide +kernel
theorem dX2_weigh_7 : decode cX2_weigh 7 = .ok (.if_icmp .ge 88, 3) := by decide +kernel
theorem dX2_weigh_10 : decode cX2_weigh 10 = .ok (.aload_n 1, 1) := by decide +kernel
theorem dX2_weigh_11 : decode cX2_weigh 11 = .ok (.iload_n 3, 1) := by decide +kernel
theorem dX2_weigh_12 : decode cX2_weigh 12 = .ok (.invokevirtual 97, 3) := by decide +kernel
theorem dX2_weigh_15 : decode cX2_weigh 15 = .ok (.istore 4, 2) := by decide +kernel
theorem dX2_weigh_17 : decode cX2_weigh 17 = .ok (.iconst 0, 1) := by decide +kernel
theorem dX2_weigh_18 : decode cX2_weigh 18 = .ok (.istore 5, 2) := by decide +kernel
theorem dX2_weigh_20 : decode cX2_weigh 20 = .ok (.iload 5, 2) := by decide +kernel
theorem dX2_weigh_22 : decode cX2_weigh 22 = .ok (.bipush 7, 2) := by decide +kernel
theorem dX2_weigh_24 : decode cX2_weigh 24 = .ok (.if_icmp .ge 65, 3) := by decide +kernel
theorem dX2_weigh_27 : decode cX2_weigh 27 = .ok (.iload 4, 2) := by decide +kernel
theorem dX2_weigh_29 : decode cX2_weigh 29 = .ok (.iload 5, 2) := by decide +kernel
theorem dX2_weigh_31 : decode cX2_weigh 31 = .ok (.if_icmp .ne 7, 3) := by decide +kernel
theorem dX2_weigh_34 : decode cX2_weigh 34 = .ok (.iconst 0, 1) := by decide +kernel
theorem dX2_weigh_35 : decode cX2_weigh 35 = .ok (.goto 5, 3) := by decide +kernel
theorem dX2_weigh_38 : decode cX2_weigh 38 = .ok (.ldc 23, 2) := by decide +kernel
theorem dX2_weigh_40 : decode cX2_weigh 40 = .ok (.istore 6, 2) := by decide +kernel
theorem dX2_weigh_42 : decode cX2_weigh 42 = .ok (.iload 4, 2) := by decide +kernel
theorem dX2_weigh_44 : decode cX2_weigh 44 = .ok (.iconst (-1), 1) := by decide +kernel
theorem dX2_weigh_45 : decode cX2_weigh 45 = .ok (.if_icmp .ne 22, 3) := by decide +kernel
theorem dX2_weigh_48 : decode cX2_weigh 48 = .ok (.aload_n 2, 1) := by decide +kernel
theorem dX2_weigh_49 : decode cX2_weigh 49 = .ok (.iload 5, 2) := by decide +kernel
theorem dX2_weigh_51 : decode cX2_weigh 51 = .ok (.aload_n 1, 1) := by decide +kernel
theorem dX2_weigh_52 : decode cX2_weigh 52 = .ok (.iload_n 3, 1) := by decide +kernel
theorem dX2_weigh_53 : decode cX2_weigh 53 = .ok (.iconst 0, 1) := by decide +kernel
theorem dX2_weigh_54 : decode cX2_weigh 54 = .ok (.invokevirtual 100, 3) := by decide +kernel
theorem dX2_weigh_57 : decode cX2_weigh 57 = .ok (.aload_n 1, 1) := by decide +kernel
theorem dX2_weigh_58 : decode cX2_weigh 58 = .ok (.iload_n 3, 1) := by decide +kernel
theorem dX2_weigh_59 : decode cX2_weigh 59 = .ok (.invokevirtual 104, 3) := by decide +kernel
theorem dX2_weigh_62 : decode cX2_weigh 62 = .ok (.invokevirtual 107, 3) := by decide +kernel
theorem dX2_weigh_65 : decode cX2_weigh 65 = .ok (.istore 6, 2) := by decide +kernel
theorem dX2_weigh_67 : decode cX2_weigh 67 = .ok (.aload_n 0, 1) := by decide +kernel
theorem dX2_weigh_68 : decode cX2_weigh 68 = .ok (.getfield 16, 3) := by decide +kernel
theorem dX2_weigh_71 : decode cX2_weigh 71 = .ok (.iload_n 3, 1) := by decide +kernel
theorem dX2_weigh_72 : decode cX2_weigh 72 = .ok (.bipush 7, 2) := by decide +kernel
theorem dX2_weigh_74 : decode cX2_weigh 74 = .ok (.imul, 1) := by decide +kernel
theorem dX2_weigh_75 : decode cX2_weigh 75 = .ok (.iload 5, 2) := by decide +kernel
theorem dX2_weigh_77 : decode cX2_weigh 77 = .ok (.iadd, 1) := by decide +kernel
theorem dX2_weigh_78 : decode cX2_weigh 78 = .ok (.iload 6, 2) := by decide +kernel
theorem dX2_weigh_80 : decode cX2_weigh 80 = .ok (.invokevirtual 111, 3) := by decide +kernel
theorem dX2_weigh_83 : decode cX2_weigh 83 = .ok (.iinc 5 1, 3) := by decide +kernel
theorem dX2_weigh_86 : decode cX2_weigh 86 = .ok (.goto (-66), 3) := by decide +kernel
theorem dX2_weigh_89 : decode cX2_weigh 89 = .ok (.iinc 3 1, 3) := by decide +kernel
theorem dX2_weigh_92 : decode cX2_weigh 92 = .ok (.goto (-90), 3) := by decide +kernel
theorem dX2_weigh_95 : decode cX2_weigh 95 = .ok (.return_, 1) := by decide +kernel
theorem dX2_planStates_0 : decode cX2_planStates 0 = .ok (.aload_n 0, 1) := by decide +kernel
theorem dX2_planStates_1 : decode cX2_planStates 1 = .ok (.iload_n 1, 1) := by decide +kernel
theorem dX2_planStates_2 : decode cX2_planStates 2 = .ok (.iconst 2, 1) := by decide +kernel
theorem dX2_planStates_3 : decode cX2_planStates 3 = .ok (.idiv, 1) := by decide +kernel
theorem dX2_planStates_4 : decode cX2_planStates 4 = .ok (.iconst 1, 1) := by decide +kernel
theorem dX2_planStates_5 : decode cX2_planStates 5 = .ok (.iadd, 1) := by decide +kernel
theorem dX2_planStates_6 : decode cX2_planStates 6 = .ok (.iconst 3, 1) := by decide +kernel
theorem dX2_planStates_7 : decode cX2_planStates 7 = .ok (.imul, 1) := by decide +kernel
theorem dX2_planStates_8 : decode cX2_planStates 8 = .ok (.putfield 49, 3) := by decide +kernel
theorem dX2_planStates_11 : decode cX2_planStates 11 = .ok (.iconst 0, 1) := by decide +kernel
theorem dX2_planStates_12 : decode cX2_planStates 12 = .ok (.istore_n 2, 1) := by decide +kernel
theorem dX2_planStates_13 : decode cX2_planStates 13 = .ok (.iload_n 2, 1) := by decide +kernel
theorem dX2_planStates_14 : decode cX2_planStates 14 = .ok (.aload_n 0, 1) := by decide +kernel
theorem dX2_planStates_15 : decode cX2_planStates 15 = .ok (.getfield 49, 3) := by decide +kernel
theorem dX2_planStates_18 : decode cX2_planStates 18 = .ok (.if_icmp .ge 42, 3) := by decide +kernel
theorem dX2_planStates_21 : decode cX2_planStates 21 = .ok (.iconst 0, 1) := by decide +kernel
theorem dX2_planStates_22 : decode cX2_planStates 22 = .ok (.istore_n 3, 1) := by decide +kernel
theorem dX2_planStates_23 : decode cX2_planStates 23 = .ok (.iload_n 3, 1) := by decide +kernel
theorem dX2_planStates_24 : decode cX2_planStates 24 = .ok (.bipush 7, 2) := by decide +kernel
theorem dX2_planStates_26 : decode cX2_planStates 26 = .ok (.if_icmp .ge 28, 3) := by decide +kernel
theorem dX2_planStates_29 : decode cX2_planStates 29 = .ok (.aload_n 0, 1) := by decide +kernel
theorem dX2_planStates_30 : decode cX2_planStates 30 = .ok (.getfield 20, 3) := by decide +kernel
theorem dX2_planStates_33 : decode cX2_planStates 33 = .ok (.iload_n 2, 1) := by decide +kernel
theorem dX2_planStates_34 : decode cX2_planStates 34 = .ok (.bipush 7, 2) := by decide +kernel
theorem dX2_planStates_36 : decode cX2_planStates 36 = .ok (.imul, 1) := by decide +kernel
theorem dX2_planStates_37 : decode cX2_planStates 37 = .ok (.iload_n 3, 1) := by decide +kernel
theorem dX2_planStates_38 : decode cX2_planStates 38 = .ok (.iadd, 1) := by decide +kernel
theorem dX2_planStates_39 : decode cX2_planStates 39 = .ok (.iload_n 2, 1) := by decide +kernel
theorem dX2_planStates_40 : decode cX2_planStates 40 = .ok (.iload_n 3, 1) := by decide +kernel
theorem dX2_planStates_41 : decode cX2_planStates 41 = .ok (.iload_n 1, 1) := by decide +kernel
theorem dX2_planStates_42 : decode cX2_planStates 42 = .ok (.invokestatic 114, 3) := by decide +kernel
theorem dX2_planStates_45 : decode cX2_planStates 45 = .ok (.invokevirtual 111, 3) := by decide +kernel
theorem dX2_planStates_48 : decode cX2_planStates 48 = .ok (.iinc 3 1, 3) := by decide +kernel
theorem dX2_planStates_51 : decode cX2_planStates 51 = .ok (.goto (-28), 3) := by decide +kernel
theorem dX2_planStates_54 : decode cX2_planStates 54 = .ok (.iinc 2 1, 3) := by decide +kernel
theorem dX2_planStates_57 : decode cX2_planStates 57 = .ok (.goto (-44), 3) := by decide +kernel
theorem dX2_planStates_60 : decode cX2_planStates 60 = .ok (.return_, 1) := by decide +kernel
theorem dX2_stateBehind_0 : decode cX2_stateBehind 0 = .ok (.iload_n 0, 1) := by decide +kernel
theorem dX2_stateBehind_1 : decode cX2_stateBehind 1 = .ok (.invokestatic 117, 3) := by decide +kernel
theorem dX2_stateBehind_4 : decode cX2_stateBehind 4 = .ok (.istore_n 3, 1) := by decide +kernel
theorem dX2_stateBehind_5 : decode cX2_stateBehind 5 = .ok (.iload_n 0, 1) := by decide +kernel
theorem dX2_stateBehind_6 : decode cX2_stateBehind 6 = .ok (.iconst 3, 1) := by decide +kernel
theorem dX2_stateBehind_7 : decode cX2_stateBehind 7 = .ok (.irem, 1) := by decide +kernel
theorem dX2_stateBehind_8 : decode cX2_stateBehind 8 = .ok (.istore 4, 2) := by decide +kernel
theorem dX2_stateBehind_10 : decode cX2_stateBehind 10 = .ok (.iload_n 1, 1) := by decide +kernel
theorem dX2_stateBehind_11 : decode cX2_stateBehind 11 = .ok (.tableswitch 109 0 5 #[37, 49, 61, 61, 73, 95], 37) := by decide +kernel
theorem dX2_stateBehind_48 : decode cX2_stateBehind 48 = .ok (.iload_n 3, 1) := by decide +kernel
theorem dX2_stateBehind_49 : decode cX2_stateBehind 49 = .ok (.iload_n 1, 1) := by decide +kernel
theorem dX2_stateBehind_50 : decode cX2_stateBehind 50 = .ok (.invokestatic 120, 3) := by decide +kernel
theorem dX2_stateBehind_53 : decode cX2_stateBehind 53 = .ok (.iadd, 1) := by decide +kernel
theorem dX2_stateBehind_54 : decode cX2_stateBehind 54 = .ok (.iconst 1, 1) := by decide +kernel
theorem dX2_stateBehind_55 : decode cX2_stateBehind 55 = .ok (.iload_n 2, 1) := by decide +kernel
theorem dX2_stateBehind_56 : decode cX2_stateBehind 56 = .ok (.invokestatic 123, 3) := by decide +kernel
theorem dX2_stateBehind_59 : decode cX2_stateBehind 59 = .ok (.ireturn, 1) := by decide +kernel
theorem dX2_stateBehind_60 : decode cX2_stateBehind 60 = .ok (.iload_n 3, 1) := by decide +kernel
theorem dX2_stateBehind_61 : decode cX2_stateBehind 61 = .ok (.iload_n 1, 1) := by decide +kernel
theorem dX2_stateBehind_62 : decode cX2_stateBehind 62 = .ok (.invokestatic 120, 3) := by decide +kernel
theorem dX2_stateBehind_65 : decode cX2_stateBehind 65 = .ok (.iadd, 1) := by decide +kernel
theorem dX2_stateBehind_66 : decode cX2_stateBehind 66 = .ok (.iconst 2, 1) := by decide +kernel
theorem dX2_stateBehind_67 : decode cX2_stateBehind 67 = .ok (.iload_n 2, 1) := by decide +kernel
theorem dX2_stateBehind_68 : decode cX2_stateBehind 68 = .ok (.invokestatic 123, 3) := by decide +kernel
theorem dX2_stateBehind_71 : decode cX2_stateBehind 71 = .ok (.ireturn, 1) := by decide +kernel
theorem dX2_stateBehind_72 : decode cX2_stateBehind 72 = .ok (.iload_n 3, 1) := by decide +kernel
theorem dX2_stateBehind_73 : decode cX2_stateBehind 73 = .ok (.iload_n 1, 1) := by decide +kernel
theorem dX2_stateBehind_74 : decode cX2_stateBehind 74 = .ok (.invokestatic 120, 3) := by decide +kernel
theorem dX2_stateBehind_77 : decode cX2_stateBehind 77 = .ok (.iadd, 1) := by decide +kernel
theorem dX2_stateBehind_78 : decode cX2_stateBehind 78 = .ok (.iconst 0, 1) := by decide +kernel
theorem dX2_stateBehind_79 : decode cX2_stateBehind 79 = .ok (.iload_n 2, 1) := by decide +kernel
theorem dX2_stateBehind_80 : decode cX2_stateBehind 80 = .ok (.invokestatic 123, 3) := by decide +kernel
theorem dX2_stateBehind_83 : decode cX2_stateBehind 83 = .ok (.ireturn, 1) := by decide +kernel
theorem dX2_stateBehind_84 : decode cX2_stateBehind 84 = .ok (.iload 4, 2) := by decide +kernel
theorem dX2_stateBehind_86 : decode cX2_stateBehind 86 = .ok (.ifCond .ne 7, 3) := by decide +kernel
theorem dX2_stateBehind_89 : decode cX2_stateBehind 89 = .ok (.iconst (-1), 1) := by decide +kernel
theorem dX2_stateBehind_90 : decode cX2_stateBehind 90 = .ok (.goto 15, 3) := by decide +kernel
theorem dX2_stateBehind_93 : decode cX2_stateBehind 93 = .ok (.iload_n 3, 1) := by decide +kernel
theorem dX2_stateBehind_94 : decode cX2_stateBehind 94 = .ok (.iload 4, 2) := by decide +kernel
theorem dX2_stateBehind_96 : decode cX2_stateBehind 96 = .ok (.invokestatic 126, 3) := by decide +kernel
theorem dX2_stateBehind_99 : decode cX2_stateBehind 99 = .ok (.iadd, 1) := by decide +kernel
theorem dX2_stateBehind_100 : decode cX2_stateBehind 100 = .ok (.iconst 0, 1) := by decide +kernel
theorem dX2_stateBehind_101 : decode cX2_stateBehind 101 = .ok (.iload_n 2, 1) := by decide +kernel
theorem dX2_stateBehind_102 : decode cX2_stateBehind 102 = .ok (.invokestatic 123, 3) := by decide +kernel
theorem dX2_stateBehind_105 : decode cX2_stateBehind 105 = .ok (.ireturn, 1) := by decide +kernel
theorem dX2_stateBehind_106 : decode cX2_stateBehind 106 = .ok (.iload_n 3, 1) := by decide +kernel
theorem dX2_stateBehind_107 : decode cX2_stateBehind 107 = .ok (.iload_n 2, 1) := by decide +kernel
theorem dX2_stateBehind_108 : decode cX2_stateBehind 108 = .ok (.invokestatic 129, 3) := by decide +kernel
theorem dX2_stateBehind_111 : decode cX2_stateBehind 111 = .ok (.ifCond .eq 7, 3) := by decide +kernel
theorem dX2_stateBehind_114 : decode cX2_stateBehind 114 = .ok (.iconst 0, 1) := by decide +kernel
theorem dX2_stateBehind_115 : decode cX2_stateBehind 115 = .ok (.goto 4, 3) := by decide +kernel
theorem dX2_stateBehind_118 : decode cX2_stateBehind 118 = .ok (.iconst (-1), 1) := by decide +kernel
theorem dX2_stateBehind_119 : decode cX2_stateBehind 119 = .ok (.ireturn, 1) := by decide +kernel
theorem dX2_stateBehind_120 : decode cX2_stateBehind 120 = .ok (.iload_n 0, 1) := by decide +kernel
theorem dX2_stateBehind_121 : decode cX2_stateBehind 121 = .ok (.ireturn, 1) := by decide +kernel
theorem dX2_stateAt_0 : decode cX2_stateAt 0 = .ok (.iload_n 0, 1) := by decide +kernel
theorem dX2_stateAt_1 : decode cX2_stateAt 1 = .ok (.iload_n 2, 1) := by decide +kernel
theorem dX2_stateAt_2 : decode cX2_stateAt 2 = .ok (.if_icmp .le 7, 3) := by decide +kernel
theorem dX2_stateAt_5 : decode cX2_stateAt 5 = .ok (.iconst (-1), 1) := by decide +kernel
theorem dX2_stateAt_6 : decode cX2_stateAt 6 = .ok (.goto 10, 3) := by decide +kernel
theorem dX2_stateAt_9 : decode cX2_stateAt 9 = .ok (.iload_n 0, 1) := by decide +kernel
theorem dX2_stateAt_10 : decode cX2_stateAt 10 = .ok (.iconst 2, 1) := by decide +kernel
theorem dX2_stateAt_11 : decode cX2_stateAt 11 = .ok (.idiv, 1) := by decide +kernel
theorem dX2_stateAt_12 : decode cX2_stateAt 12 = .ok (.iconst 3, 1) := by decide +kernel
theorem dX2_stateAt_13 : decode cX2_stateAt 13 = .ok (.imul, 1) := by decide +kernel
theorem dX2_stateAt_14 : decode cX2_stateAt 14 = .ok (.iload_n 1, 1) := by decide +kernel
theorem dX2_stateAt_15 : decode cX2_stateAt 15 = .ok (.iadd, 1) := by decide +kernel
theorem dX2_stateAt_16 : decode cX2_stateAt 16 = .ok (.ireturn, 1) := by decide +kernel
theorem dX2_timeOf_0 : decode cX2_timeOf 0 = .ok (.iload_n 0, 1) := by decide +kernel
theorem dX2_timeOf_1 : decode cX2_timeOf 1 = .ok (.iconst 3, 1) := by decide +kernel
theorem dX2_timeOf_2 : decode cX2_timeOf 2 = .ok (.idiv, 1) := by decide +kernel
theorem dX2_timeOf_3 : decode cX2_timeOf 3 = .ok (.iconst 2, 1) := by decide +kernel
theorem dX2_timeOf_4 : decode cX2_timeOf 4 = .ok (.imul, 1) := by decide +kernel
theorem dX2_timeOf_5 : decode cX2_timeOf 5 = .ok (.ireturn, 1) := by decide +kernel
theorem dX2_mayEnd_0 : decode cX2_mayEnd 0 = .ok (.iload_n 0, 1) := by decide +kernel
theorem dX2_mayEnd_1 : decode cX2_mayEnd 1 = .ok (.ifCond .eq 8, 3) := by decide +kernel
theorem dX2_mayEnd_4 : decode cX2_mayEnd 4 = .ok (.iload_n 0, 1) := by decide +kernel
theorem dX2_mayEnd_5 : decode cX2_mayEnd 5 = .ok (.iload_n 1, 1) := by decide +kernel
theorem dX2_mayEnd_6 : decode cX2_mayEnd 6 = .ok (.if_icmp .ne 7, 3) := by decide +kernel
theorem dX2_mayEnd_9 : decode cX2_mayEnd 9 = .ok (.iconst 1, 1) := by decide +kernel
theorem dX2_mayEnd_10 : decode cX2_mayEnd 10 = .ok (.goto 4, 3) := by decide +kernel
theorem dX2_mayEnd_13 : decode cX2_mayEnd 13 = .ok (.iconst 0, 1) := by decide +kernel
theorem dX2_mayEnd_14 : decode cX2_mayEnd 14 = .ok (.ireturn, 1) := by decide +kernel
theorem dX2_signTime_0 : decode cX2_signTime 0 = .ok (.iload_n 0, 1) := by decide +kernel
theorem dX2_signTime_1 : decode cX2_signTime 1 = .ok (.tableswitch 39 0 3 #[31, 33, 36, 31], 31) := by decide +kernel
theorem dX2_signTime_32 : decode cX2_signTime 32 = .ok (.iconst 4, 1) := by decide +kernel
theorem dX2_signTime_33 : decode cX2_signTime 33 = .ok (.ireturn, 1) := by decide +kernel
theorem dX2_signTime_34 : decode cX2_signTime 34 = .ok (.bipush 8, 2) := by decide +kernel
theorem dX2_signTime_36 : decode cX2_signTime 36 = .ok (.ireturn, 1) := by decide +kernel
theorem dX2_signTime_37 : decode cX2_signTime 37 = .ok (.bipush 16, 2) := by decide +kernel
theorem dX2_signTime_39 : decode cX2_signTime 39 = .ok (.ireturn, 1) := by decide +kernel
theorem dX2_signTime_40 : decode cX2_signTime 40 = .ok (.iconst 0, 1) := by decide +kernel
theorem dX2_signTime_41 : decode cX2_signTime 41 = .ok (.ireturn, 1) := by decide +kernel
theorem dX2_dotTime_0 : decode cX2_dotTime 0 = .ok (.iload_n 0, 1) := by decide +kernel
theorem dX2_dotTime_1 : decode cX2_dotTime 1 = .ok (.iconst 2, 1) := by decide +kernel
theorem dX2_dotTime_2 : decode cX2_dotTime 2 = .ok (.if_icmp .ne 7, 3) := by decide +kernel
theorem dX2_dotTime_5 : decode cX2_dotTime 5 = .ok (.iconst 1, 1) := by decide +kernel
theorem dX2_dotTime_6 : decode cX2_dotTime 6 = .ok (.goto 4, 3) := by decide +kernel
theorem dX2_dotTime_9 : decode cX2_dotTime 9 = .ok (.iconst 0, 1) := by decide +kernel
theorem dX2_dotTime_10 : decode cX2_dotTime 10 = .ok (.invokestatic 120, 3) := by decide +kernel
theorem dX2_dotTime_13 : decode cX2_dotTime 13 = .ok (.iconst 2, 1) := by decide +kernel
theorem dX2_dotTime_14 : decode cX2_dotTime 14 = .ok (.idiv, 1) := by decide +kernel
theorem dX2_dotTime_15 : decode cX2_dotTime 15 = .ok (.ireturn, 1) := by decide +kernel
theorem dX2_workRests_0 : decode cX2_workRests 0 = .ok (.iconst 0, 1) := by decide +kernel
theorem dX2_workRests_1 : decode cX2_workRests 1 = .ok (.istore_n 2, 1) := by decide +kernel
theorem dX2_workRests_2 : decode cX2_workRests 2 = .ok (.iload_n 2, 1) := by decide +kernel
theorem dX2_workRests_3 : decode cX2_workRests 3 = .ok (.aload_n 0, 1) := by decide +kernel
theorem dX2_workRests_4 : decode cX2_workRests 4 = .ok (.getfield 49, 3) := by decide +kernel
theorem dX2_workRests_7 : decode cX2_workRests 7 = .ok (.if_icmp .ge 42, 3) := by decide +kernel
theorem dX2_workRests_10 : decode cX2_workRests 10 = .ok (.aload_n 0, 1) := by decide +kernel
theorem dX2_workRests_11 : decode cX2_workRests 11 = .ok (.getfield 24, 3) := by decide +kernel
theorem dX2_workRests_14 : decode cX2_workRests 14 = .ok (.aload_n 0, 1) := by decide +kernel
theorem dX2_workRests_15 : decode cX2_workRests 15 = .ok (.getfield 45, 3) := by decide +kernel
theorem dX2_workRests_18 : decode cX2_workRests 18 = .ok (.bipush 75, 2) := by decide +kernel
theorem dX2_workRests_20 : decode cX2_workRests 20 = .ok (.imul, 1) := by decide +kernel
theorem dX2_workRests_21 : decode cX2_workRests 21 = .ok (.iload_n 2, 1) := by decide +kernel
theorem dX2_workRests_22 : decode cX2_workRests 22 = .ok (.iadd, 1) := by decide +kernel
theorem dX2_workRests_23 : decode cX2_workRests 23 = .ok (.iload_n 2, 1) := by decide +kernel
theorem dX2_workRests_24 : decode cX2_workRests 24 = .ok (.invokestatic 117, 3) := by decide +kernel
theorem dX2_workRests_27 : decode cX2_workRests 27 = .ok (.iload_n 1, 1) := by decide +kernel
theorem dX2_workRests_28 : decode cX2_workRests 28 = .ok (.invokestatic 129, 3) := by decide +kernel
theorem dX2_workRests_31 : decode cX2_workRests 31 = .ok (.ifCond .eq 7, 3) := by decide +kernel
theorem dX2_workRests_34 : decode cX2_workRests 34 = .ok (.iconst 0, 1) := by decide +kernel
theorem dX2_workRests_35 : decode cX2_workRests 35 = .ok (.goto 5, 3) := by decide +kernel
theorem dX2_workRests_38 : decode cX2_workRests 38 = .ok (.ldc 23, 2) := by decide +kernel
theorem dX2_workRests_40 : decode cX2_workRests 40 = .ok (.invokevirtual 111, 3) := by decide +kernel
theorem dX2_workRests_43 : decode cX2_workRests 43 = .ok (.iinc 2 1, 3) := by decide +kernel
theorem dX2_workRests_46 : decode cX2_workRests 46 = .ok (.goto (-44), 3) := by decide +kernel
theorem dX2_workRests_49 : decode cX2_workRests 49 = .ok (.aload_n 0, 1) := by decide +kernel
theorem dX2_workRests_50 : decode cX2_workRests 50 = .ok (.getfield 45, 3) := by decide +kernel
theorem dX2_workRests_53 : decode cX2_workRests 53 = .ok (.iconst 1, 1) := by decide +kernel
theorem dX2_workRests_54 : decode cX2_workRests 54 = .ok (.isub, 1) := by decide +kernel
theorem dX2_workRests_55 : decode cX2_workRests 55 = .ok (.istore_n 2, 1) := by decide +kernel
theorem dX2_workRests_56 : decode cX2_workRests 56 = .ok (.iload_n 2, 1) := by decide +kernel
theorem dX2_workRests_57 : decode cX2_workRests 57 = .ok (.ifCond .lt 45, 3) := by decide +kernel
theorem dX2_workRests_60 : decode cX2_workRests 60 = .ok (.iconst 0, 1) := by decide +kernel
theorem dX2_workRests_61 : decode cX2_workRests 61 = .ok (.istore_n 3, 1) := by decide +kernel
theorem dX2_workRests_62 : decode cX2_workRests 62 = .ok (.iload_n 3, 1) := by decide +kernel
theorem dX2_workRests_63 : decode cX2_workRests 63 = .ok (.aload_n 0, 1) := by decide +kernel
theorem dX2_workRests_64 : decode cX2_workRests 64 = .ok (.getfield 49, 3) := by decide +kernel
theorem dX2_workRests_67 : decode cX2_workRests 67 = .ok (.if_icmp .ge 29, 3) := by decide +kernel
theorem dX2_workRests_70 : decode cX2_workRests 70 = .ok (.aload_n 0, 1) := by decide +kernel
theorem dX2_workRests_71 : decode cX2_workRests 71 = .ok (.getfield 24, 3) := by decide +kernel
theorem dX2_workRests_74 : decode cX2_workRests 74 = .ok (.iload_n 2, 1) := by decide +kernel
theorem dX2_workRests_75 : decode cX2_workRests 75 = .ok (.bipush 75, 2) := by decide +kernel
theorem dX2_workRests_77 : decode cX2_workRests 77 = .ok (.imul, 1) := by decide +kernel
theorem dX2_workRests_78 : decode cX2_workRests 78 = .ok (.iload_n 3, 1) := by decide +kernel
theorem dX2_workRests_79 : decode cX2_workRests 79 = .ok (.iadd, 1) := by decide +kernel
theorem dX2_workRests_80 : decode cX2_workRests 80 = .ok (.aload_n 0, 1) := by decide +kernel
theorem dX2_workRests_81 : decode cX2_workRests 81 = .ok (.iload_n 2, 1) := by decide +kernel
theorem dX2_workRests_82 : decode cX2_workRests 82 = .ok (.iload_n 3, 1) := by decide +kernel
theorem dX2_workRests_83 : decode cX2_workRests 83 = .ok (.iconst (-1), 1) := by decide +kernel
theorem dX2_workRests_84 : decode cX2_workRests 84 = .ok (.invokevirtual 133, 3) := by decide +kernel
theorem dX2_workRests_87 : decode cX2_workRests 87 = .ok (.invokevirtual 111, 3) := by decide +kernel
theorem dX2_workRests_90 : decode cX2_workRests 90 = .ok (.iinc 3 1, 3) := by decide +kernel
theorem dX2_workRests_93 : decode cX2_workRests 93 = .ok (.goto (-31), 3) := by decide +kernel
theorem dX2_workRests_96 : decode cX2_workRests 96 = .ok (.iinc 2 (-1), 3) := by decide +kernel
theorem dX2_workRests_99 : decode cX2_workRests 99 = .ok (.goto (-43), 3) := by decide +kernel
theorem dX2_workRests_102 : decode cX2_workRests 102 = .ok (.return_, 1) := by decide +kernel
theorem dX2_leastFrom_0 : decode cX2_leastFrom 0 = .ok (.ldc 23, 2) := by decide +kernel
theorem dX2_leastFrom_2 : decode cX2_leastFrom 2 = .ok (.istore 4, 2) := by decide +kernel
theorem dX2_leastFrom_4 : decode cX2_leastFrom 4 = .ok (.iconst 0, 1) := by decide +kernel
theorem dX2_leastFrom_5 : decode cX2_leastFrom 5 = .ok (.istore 5, 2) := by decide +kernel
theorem dX2_leastFrom_7 : decode cX2_leastFrom 7 = .ok (.iload 5, 2) := by decide +kernel
theorem dX2_leastFrom_9 : decode cX2_leastFrom 9 = .ok (.bipush 7, 2) := by decide +kernel
theorem dX2_leastFrom_11 : decode cX2_leastFrom 11 = .ok (.if_icmp .ge 30, 3) := by decide +kernel
theorem dX2_leastFrom_14 : decode cX2_leastFrom 14 = .ok (.iload 5, 2) := by decide +kernel
theorem dX2_leastFrom_16 : decode cX2_leastFrom 16 = .ok (.iload_n 3, 1) := by decide +kernel
theorem dX2_leastFrom_17 : decode cX2_leastFrom 17 = .ok (.if_icmp .eq 18, 3) := by decide +kernel
theorem dX2_leastFrom_20 : decode cX2_leastFrom 20 = .ok (.iload 4, 2) := by decide +kernel
theorem dX2_leastFrom_22 : decode cX2_leastFrom 22 = .ok (.aload_n 0, 1) := by decide +kernel
theorem dX2_leastFrom_23 : decode cX2_leastFrom 23 = .ok (.iload_n 1, 1) := by decide +kernel
theorem dX2_leastFrom_24 : decode cX2_leastFrom 24 = .ok (.iload_n 2, 1) := by decide +kernel
theorem dX2_leastFrom_25 : decode cX2_leastFrom 25 = .ok (.iload 5, 2) := by decide +kernel
theorem dX2_leastFrom_27 : decode cX2_leastFrom 27 = .ok (.invokevirtual 136, 3) := by decide +kernel
theorem dX2_leastFrom_30 : decode cX2_leastFrom 30 = .ok (.invokestatic 139, 3) := by decide +kernel
theorem dX2_leastFrom_33 : decode cX2_leastFrom 33 = .ok (.istore 4, 2) := by decide +kernel
theorem dX2_leastFrom_35 : decode cX2_leastFrom 35 = .ok (.iinc 5 1, 3) := by decide +kernel
theorem dX2_leastFrom_38 : decode cX2_leastFrom 38 = .ok (.goto (-31), 3) := by decide +kernel
theorem dX2_leastFrom_41 : decode cX2_leastFrom 41 = .ok (.iload 4, 2) := by decide +kernel
theorem dX2_leastFrom_43 : decode cX2_leastFrom 43 = .ok (.ireturn, 1) := by decide +kernel
theorem dX2_costFrom_0 : decode cX2_costFrom 0 = .ok (.aload_n 0, 1) := by decide +kernel
theorem dX2_costFrom_1 : decode cX2_costFrom 1 = .ok (.getfield 20, 3) := by decide +kernel
theorem dX2_costFrom_4 : decode cX2_costFrom 4 = .ok (.iload_n 2, 1) := by decide +kernel
theorem dX2_costFrom_5 : decode cX2_costFrom 5 = .ok (.bipush 7, 2) := by decide +kernel
theorem dX2_costFrom_7 : decode cX2_costFrom 7 = .ok (.imul, 1) := by decide +kernel
theorem dX2_costFrom_8 : decode cX2_costFrom 8 = .ok (.iload_n 3, 1) := by decide +kernel
theorem dX2_costFrom_9 : decode cX2_costFrom 9 = .ok (.iadd, 1) := by decide +kernel
theorem dX2_costFrom_10 : decode cX2_costFrom 10 = .ok (.invokevirtual 83, 3) := by decide +kernel
theorem dX2_costFrom_13 : decode cX2_costFrom 13 = .ok (.istore 4, 2) := by decide +kernel
theorem dX2_costFrom_15 : decode cX2_costFrom 15 = .ok (.iload 4, 2) := by decide +kernel
theorem dX2_costFrom_17 : decode cX2_costFrom 17 = .ok (.iconst (-1), 1) := by decide +kernel
theorem dX2_costFrom_18 : decode cX2_costFrom 18 = .ok (.if_icmp .ne 6, 3) := by decide +kernel
theorem dX2_costFrom_21 : decode cX2_costFrom 21 = .ok (.ldc 23, 2) := by decide +kernel
theorem dX2_costFrom_23 : decode cX2_costFrom 23 = .ok (.ireturn, 1) := by decide +kernel
theorem dX2_costFrom_24 : decode cX2_costFrom 24 = .ok (.aload_n 0, 1) := by decide +kernel
theorem dX2_costFrom_25 : decode cX2_costFrom 25 = .ok (.getfield 16, 3) := by decide +kernel
theorem dX2_costFrom_28 : decode cX2_costFrom 28 = .ok (.iload_n 1, 1) := by decide +kernel
theorem dX2_costFrom_29 : decode cX2_costFrom 29 = .ok (.bipush 7, 2) := by decide +kernel
theorem dX2_costFrom_31 : decode cX2_costFrom 31 = .ok (.imul, 1) := by decide +kernel
theorem dX2_costFrom_32 : decode cX2_costFrom 32 = .ok (.iload_n 3, 1) := by decide +kernel
theorem dX2_costFrom_33 : decode cX2_costFrom 33 = .ok (.iadd, 1) := by decide +kernel
theorem dX2_costFrom_34 : decode cX2_costFrom 34 = .ok (.invokevirtual 83, 3) := by decide +kernel
theorem dX2_costFrom_37 : decode cX2_costFrom 37 = .ok (.aload_n 0, 1) := by decide +kernel
theorem dX2_costFrom_38 : decode cX2_costFrom 38 = .ok (.getfield 24, 3) := by decide +kernel
theorem dX2_costFrom_41 : decode cX2_costFrom 41 = .ok (.iload_n 1, 1) := by decide +kernel
theorem dX2_costFrom_42 : decode cX2_costFrom 42 = .ok (.iconst 1, 1) := by decide +kernel
theorem dX2_costFrom_43 : decode cX2_costFrom 43 = .ok (.iadd, 1) := by decide +kernel
theorem dX2_costFrom_44 : decode cX2_costFrom 44 = .ok (.bipush 75, 2) := by decide +kernel
theorem dX2_costFrom_46 : decode cX2_costFrom 46 = .ok (.imul, 1) := by decide +kernel
theorem dX2_costFrom_47 : decode cX2_costFrom 47 = .ok (.iload 4, 2) := by decide +kernel
theorem dX2_costFrom_49 : decode cX2_costFrom 49 = .ok (.iadd, 1) := by decide +kernel
theorem dX2_costFrom_50 : decode cX2_costFrom 50 = .ok (.invokevirtual 83, 3) := by decide +kernel
theorem dX2_costFrom_53 : decode cX2_costFrom 53 = .ok (.iadd, 1) := by decide +kernel
theorem dX2_costFrom_54 : decode cX2_costFrom 54 = .ok (.ireturn, 1) := by decide +kernel
theorem dX2_choose_0 : decode cX2_choose 0 = .ok (.iconst 0, 1) := by decide +kernel
theorem dX2_choose_1 : decode cX2_choose 1 = .ok (.istore_n 1, 1) := by decide +kernel
theorem dX2_choose_2 : decode cX2_choose 2 = .ok (.iconst 0, 1) := by decide +kernel
theorem dX2_choose_3 : decode cX2_choose 3 = .ok (.istore_n 2, 1) := by decide +kernel
theorem dX2_choose_4 : decode cX2_choose 4 = .ok (.iload_n 2, 1) := by decide +kernel
theorem dX2_choose_5 : decode cX2_choose 5 = .ok (.aload_n 0, 1) := by decide +kernel
theorem dX2_choose_6 : decode cX2_choose 6 = .ok (.getfield 45, 3) := by decide +kernel
theorem dX2_choose_9 : decode cX2_choose 9 = .ok (.if_icmp .ge 39, 3) := by decide +kernel
theorem dX2_choose_12 : decode cX2_choose 12 = .ok (.aload_n 0, 1) := by decide +kernel
theorem dX2_choose_13 : decode cX2_choose 13 = .ok (.iload_n 2, 1) := by decide +kernel
theorem dX2_choose_14 : decode cX2_choose 14 = .ok (.iload_n 1, 1) := by decide +kernel
theorem dX2_choose_15 : decode cX2_choose 15 = .ok (.invokevirtual 144, 3) := by decide +kernel
theorem dX2_choose_18 : decode cX2_choose 18 = .ok (.istore_n 3, 1) := by decide +kernel
theorem dX2_choose_19 : decode cX2_choose 19 = .ok (.aload_n 0, 1) := by decide +kernel
theorem dX2_choose_20 : decode cX2_choose 20 = .ok (.getfield 33, 3) := by decide +kernel
theorem dX2_choose_23 : decode cX2_choose 23 = .ok (.iload_n 2, 1) := by decide +kernel
theorem dX2_choose_24 : decode cX2_choose 24 = .ok (.iload_n 3, 1) := by decide +kernel
theorem dX2_choose_25 : decode cX2_choose 25 = .ok (.invokevirtual 111, 3) := by decide +kernel
theorem dX2_choose_28 : decode cX2_choose 28 = .ok (.aload_n 0, 1) := by decide +kernel
theorem dX2_choose_29 : decode cX2_choose 29 = .ok (.getfield 20, 3) := by decide +kernel
theorem dX2_choose_32 : decode cX2_choose 32 = .ok (.iload_n 1, 1) := by decide +kernel
theorem dX2_choose_33 : decode cX2_choose 33 = .ok (.bipush 7, 2) := by decide +kernel
theorem dX2_choose_35 : decode cX2_choose 35 = .ok (.imul, 1) := by decide +kernel
theorem dX2_choose_36 : decode cX2_choose 36 = .ok (.iload_n 3, 1) := by decide +kernel
theorem dX2_choose_37 : decode cX2_choose 37 = .ok (.iadd, 1) := by decide +kernel
theorem dX2_choose_38 : decode cX2_choose 38 = .ok (.invokevirtual 83, 3) := by decide +kernel
theorem dX2_choose_41 : decode cX2_choose 41 = .ok (.istore_n 1, 1) := by decide +kernel
theorem dX2_choose_42 : decode cX2_choose 42 = .ok (.iinc 2 1, 3) := by decide +kernel
theorem dX2_choose_45 : decode cX2_choose 45 = .ok (.goto (-41), 3) := by decide +kernel
theorem dX2_choose_48 : decode cX2_choose 48 = .ok (.return_, 1) := by decide +kernel
theorem dX2_firstBest_0 : decode cX2_firstBest 0 = .ok (.iconst 0, 1) := by decide +kernel
theorem dX2_firstBest_1 : decode cX2_firstBest 1 = .ok (.istore_n 3, 1) := by decide +kernel
theorem dX2_firstBest_2 : decode cX2_firstBest 2 = .ok (.iload_n 3, 1) := by decide +kernel
theorem dX2_firstBest_3 : decode cX2_firstBest 3 = .ok (.bipush 6, 2) := by decide +kernel
theorem dX2_firstBest_5 : decode cX2_firstBest 5 = .ok (.if_icmp .ge 34, 3) := by decide +kernel
theorem dX2_firstBest_8 : decode cX2_firstBest 8 = .ok (.aload_n 0, 1) := by decide +kernel
theorem dX2_firstBest_9 : decode cX2_firstBest 9 = .ok (.iload_n 1, 1) := by decide +kernel
theorem dX2_firstBest_10 : decode cX2_firstBest 10 = .ok (.iload_n 2, 1) := by decide +kernel
theorem dX2_firstBest_11 : decode cX2_firstBest 11 = .ok (.iload_n 3, 1) := by decide +kernel
theorem dX2_firstBest_12 : decode cX2_firstBest 12 = .ok (.invokevirtual 136, 3) := by decide +kernel
theorem dX2_firstBest_15 : decode cX2_firstBest 15 = .ok (.aload_n 0, 1) := by decide +kernel
theorem dX2_firstBest_16 : decode cX2_firstBest 16 = .ok (.getfield 24, 3) := by decide +kernel
theorem dX2_firstBest_19 : decode cX2_firstBest 19 = .ok (.iload_n 1, 1) := by decide +kernel
theorem dX2_firstBest_20 : decode cX2_firstBest 20 = .ok (.bipush 75, 2) := by decide +kernel
theorem dX2_firstBest_22 : decode cX2_firstBest 22 = .ok (.imul, 1) := by decide +kernel
theorem dX2_firstBest_23 : decode cX2_firstBest 23 = .ok (.iload_n 2, 1) := by decide +kernel
theorem dX2_firstBest_24 : decode cX2_firstBest 24 = .ok (.iadd, 1) := by decide +kernel
theorem dX2_firstBest_25 : decode cX2_firstBest 25 = .ok (.invokevirtual 83, 3) := by decide +kernel
theorem dX2_firstBest_28 : decode cX2_firstBest 28 = .ok (.if_icmp .ne 5, 3) := by decide +kernel
theorem dX2_firstBest_31 : decode cX2_firstBest 31 = .ok (.iload_n 3, 1) := by decide +kernel
theorem dX2_firstBest_32 : decode cX2_firstBest 32 = .ok (.ireturn, 1) := by decide +kernel
theorem dX2_firstBest_33 : decode cX2_firstBest 33 = .ok (.iinc 3 1, 3) := by decide +kernel
theorem dX2_firstBest_36 : decode cX2_firstBest 36 = .ok (.goto (-34), 3) := by decide +kernel
theorem dX2_firstBest_39 : decode cX2_firstBest 39 = .ok (.bipush 6, 2) := by decide +kernel
theorem dX2_firstBest_41 : decode cX2_firstBest 41 = .ok (.ireturn, 1) := by decide +kernel
theorem dX2_workDoubts_0 : decode cX2_workDoubts 0 = .ok (.aload_n 0, 1) := by decide +kernel
theorem dX2_workDoubts_1 : decode cX2_workDoubts 1 = .ok (.getfield 58, 3) := by decide +kernel
theorem dX2_workDoubts_4 : decode cX2_workDoubts 4 = .ok (.ifCond .ne 4, 3) := by decide +kernel
theorem dX2_workDoubts_7 : decode cX2_workDoubts 7 = .ok (.return_, 1) := by decide +kernel
theorem dX2_workDoubts_8 : decode cX2_workDoubts 8 = .ok (.aload_n 0, 1) := by decide +kernel
theorem dX2_workDoubts_9 : decode cX2_workDoubts 9 = .ok (.iconst 0, 1) := by decide +kernel
theorem dX2_workDoubts_10 : decode cX2_workDoubts 10 = .ok (.putfield 58, 3) := by decide +kernel
theorem dX2_workDoubts_13 : decode cX2_workDoubts 13 = .ok (.aload_n 0, 1) := by decide +kernel
theorem dX2_workDoubts_14 : decode cX2_workDoubts 14 = .ok (.getfield 27, 3) := by decide +kernel
theorem dX2_workDoubts_17 : decode cX2_workDoubts 17 = .ok (.ldc 23, 2) := by decide +kernel
theorem dX2_workDoubts_19 : decode cX2_workDoubts 19 = .ok (.invokevirtual 147, 3) := by decide +kernel
theorem dX2_workDoubts_22 : decode cX2_workDoubts 22 = .ok (.aload_n 0, 1) := by decide +kernel
theorem dX2_workDoubts_23 : decode cX2_workDoubts 23 = .ok (.getfield 27, 3) := by decide +kernel
theorem dX2_workDoubts_26 : decode cX2_workDoubts 26 = .ok (.iconst 0, 1) := by decide +kernel
theorem dX2_workDoubts_27 : decode cX2_workDoubts 27 = .ok (.iconst 0, 1) := by decide +kernel
theorem dX2_workDoubts_28 : decode cX2_workDoubts 28 = .ok (.invokevirtual 111, 3) := by decide +kernel
theorem dX2_workDoubts_31 : decode cX2_workDoubts 31 = .ok (.iconst 0, 1) := by decide +kernel
theorem dX2_workDoubts_32 : decode cX2_workDoubts 32 = .ok (.istore_n 1, 1) := by decide +kernel
theorem dX2_workDoubts_33 : decode cX2_workDoubts 33 = .ok (.iload_n 1, 1) := by decide +kernel
theorem dX2_workDoubts_34 : decode cX2_workDoubts 34 = .ok (.aload_n 0, 1) := by decide +kernel
theorem dX2_workDoubts_35 : decode cX2_workDoubts 35 = .ok (.getfield 45, 3) := by decide +kernel
theorem dX2_workDoubts_38 : decode cX2_workDoubts 38 = .ok (.if_icmp .ge 44, 3) := by decide +kernel
theorem dX2_workDoubts_41 : decode cX2_workDoubts 41 = .ok (.aload_n 0, 1) := by decide +kernel
theorem dX2_workDoubts_42 : decode cX2_workDoubts 42 = .ok (.iload_n 1, 1) := by decide +kernel
theorem dX2_workDoubts_43 : decode cX2_workDoubts 43 = .ok (.invokevirtual 150, 3) := by decide +kernel
theorem dX2_workDoubts_46 : decode cX2_workDoubts 46 = .ok (.istore_n 2, 1) := by decide +kernel
theorem dX2_workDoubts_47 : decode cX2_workDoubts 47 = .ok (.aload_n 0, 1) := by decide +kernel
theorem dX2_workDoubts_48 : decode cX2_workDoubts 48 = .ok (.getfield 36, 3) := by decide +kernel
theorem dX2_workDoubts_51 : decode cX2_workDoubts 51 = .ok (.iload_n 1, 1) := by decide +kernel
theorem dX2_workDoubts_52 : decode cX2_workDoubts 52 = .ok (.iload_n 2, 1) := by decide +kernel
theorem dX2_workDoubts_53 : decode cX2_workDoubts 53 = .ok (.ldc 23, 2) := by decide +kernel
theorem dX2_workDoubts_55 : decode cX2_workDoubts 55 = .ok (.if_icmp .ge 12, 3) := by decide +kernel
theorem dX2_workDoubts_58 : decode cX2_workDoubts 58 = .ok (.iload_n 2, 1) := by decide +kernel
theorem dX2_workDoubts_59 : decode cX2_workDoubts 59 = .ok (.aload_n 0, 1) := by decide +kernel
theorem dX2_workDoubts_60 : decode cX2_workDoubts 60 = .ok (.getfield 52, 3) := by decide +kernel
theorem dX2_workDoubts_63 : decode cX2_workDoubts 63 = .ok (.isub, 1) := by decide +kernel
theorem dX2_workDoubts_64 : decode cX2_workDoubts 64 = .ok (.goto 4, 3) := by decide +kernel
theorem dX2_workDoubts_67 : decode cX2_workDoubts 67 = .ok (.iconst (-1), 1) := by decide +kernel
theorem dX2_workDoubts_68 : decode cX2_workDoubts 68 = .ok (.invokevirtual 111, 3) := by decide +kernel
theorem dX2_workDoubts_71 : decode cX2_workDoubts 71 = .ok (.aload_n 0, 1) := by decide +kernel
theorem dX2_workDoubts_72 : decode cX2_workDoubts 72 = .ok (.iload_n 1, 1) := by decide +kernel
theorem dX2_workDoubts_73 : decode cX2_workDoubts 73 = .ok (.invokevirtual 153, 3) := by decide +kernel
theorem dX2_workDoubts_76 : decode cX2_workDoubts 76 = .ok (.iinc 1 1, 3) := by decide +kernel
theorem dX2_workDoubts_79 : decode cX2_workDoubts 79 = .ok (.goto (-46), 3) := by decide +kernel
theorem dX2_workDoubts_82 : decode cX2_workDoubts 82 = .ok (.return_, 1) := by decide +kernel
theorem dX2_leastOther_0 : decode cX2_leastOther 0 = .ok (.ldc 23, 2) := by decide +kernel
theorem dX2_leastOther_2 : decode cX2_leastOther 2 = .ok (.istore_n 2, 1) := by decide +kernel
theorem dX2_leastOther_3 : decode cX2_leastOther 3 = .ok (.iconst 0, 1) := by decide +kernel
theorem dX2_leastOther_4 : decode cX2_leastOther 4 = .ok (.istore_n 3, 1) := by decide +kernel
theorem dX2_leastOther_5 : decode cX2_leastOther 5 = .ok (.iload_n 3, 1) := by decide +kernel
theorem dX2_leastOther_6 : decode cX2_leastOther 6 = .ok (.aload_n 0, 1) := by decide +kernel
theorem dX2_leastOther_7 : decode cX2_leastOther 7 = .ok (.getfield 49, 3) := by decide +kernel
theorem dX2_leastOther_10 : decode cX2_leastOther 10 = .ok (.if_icmp .ge 50, 3) := by decide +kernel
theorem dX2_leastOther_13 : decode cX2_leastOther 13 = .ok (.aload_n 0, 1) := by decide +kernel
theorem dX2_leastOther_14 : decode cX2_leastOther 14 = .ok (.getfield 27, 3) := by decide +kernel
theorem dX2_leastOther_17 : decode cX2_leastOther 17 = .ok (.iload_n 3, 1) := by decide +kernel
theorem dX2_leastOther_18 : decode cX2_leastOther 18 = .ok (.invokevirtual 83, 3) := by decide +kernel
theorem dX2_leastOther_21 : decode cX2_leastOther 21 = .ok (.ldc 23, 2) := by decide +kernel
theorem dX2_leastOther_23 : decode cX2_leastOther 23 = .ok (.if_icmp .ge 31, 3) := by decide +kernel
theorem dX2_leastOther_26 : decode cX2_leastOther 26 = .ok (.iload_n 2, 1) := by decide +kernel
theorem dX2_leastOther_27 : decode cX2_leastOther 27 = .ok (.aload_n 0, 1) := by decide +kernel
theorem dX2_leastOther_28 : decode cX2_leastOther 28 = .ok (.getfield 27, 3) := by decide +kernel
theorem dX2_leastOther_31 : decode cX2_leastOther 31 = .ok (.iload_n 3, 1) := by decide +kernel
theorem dX2_leastOther_32 : decode cX2_leastOther 32 = .ok (.invokevirtual 83, 3) := by decide +kernel
theorem dX2_leastOther_35 : decode cX2_leastOther 35 = .ok (.aload_n 0, 1) := by decide +kernel
theorem dX2_leastOther_36 : decode cX2_leastOther 36 = .ok (.iload_n 1, 1) := by decide +kernel
theorem dX2_leastOther_37 : decode cX2_leastOther 37 = .ok (.iload_n 3, 1) := by decide +kernel
theorem dX2_leastOther_38 : decode cX2_leastOther 38 = .ok (.aload_n 0, 1) := by decide +kernel
theorem dX2_leastOther_39 : decode cX2_leastOther 39 = .ok (.getfield 33, 3) := by decide +kernel
theorem dX2_leastOther_42 : decode cX2_leastOther 42 = .ok (.iload_n 1, 1) := by decide +kernel
theorem dX2_leastOther_43 : decode cX2_leastOther 43 = .ok (.invokevirtual 83, 3) := by decide +kernel
theorem dX2_leastOther_46 : decode cX2_leastOther 46 = .ok (.invokevirtual 133, 3) := by decide +kernel
theorem dX2_leastOther_49 : decode cX2_leastOther 49 = .ok (.iadd, 1) := by decide +kernel
theorem dX2_leastOther_50 : decode cX2_leastOther 50 = .ok (.invokestatic 139, 3) := by decide +kernel
theorem dX2_leastOther_53 : decode cX2_leastOther 53 = .ok (.istore_n 2, 1) := by decide +kernel
theorem dX2_leastOther_54 : decode cX2_leastOther 54 = .ok (.iinc 3 1, 3) := by decide +kernel
theorem dX2_leastOther_57 : decode cX2_leastOther 57 = .ok (.goto (-52), 3) := by decide +kernel
theorem dX2_leastOther_60 : decode cX2_leastOther 60 = .ok (.iload_n 2, 1) := by decide +kernel
theorem dX2_leastOther_61 : decode cX2_leastOther 61 = .ok (.ireturn, 1) := by decide +kernel
theorem dX2_stepAhead_0 : decode cX2_stepAhead 0 = .ok (.aload_n 0, 1) := by decide +kernel
theorem dX2_stepAhead_1 : decode cX2_stepAhead 1 = .ok (.getfield 30, 3) := by decide +kernel
theorem dX2_stepAhead_4 : decode cX2_stepAhead 4 = .ok (.ldc 23, 2) := by decide +kernel
theorem dX2_stepAhead_6 : decode cX2_stepAhead 6 = .ok (.invokevirtual 147, 3) := by decide +kernel
theorem dX2_stepAhead_9 : decode cX2_stepAhead 9 = .ok (.iconst 0, 1) := by decide +kernel
theorem dX2_stepAhead_10 : decode cX2_stepAhead 10 = .ok (.istore_n 2, 1) := by decide +kernel
theorem dX2_stepAhead_11 : decode cX2_stepAhead 11 = .ok (.iload_n 2, 1) := by decide +kernel
theorem dX2_stepAhead_12 : decode cX2_stepAhead 12 = .ok (.aload_n 0, 1) := by decide +kernel
theorem dX2_stepAhead_13 : decode cX2_stepAhead 13 = .ok (.getfield 49, 3) := by decide +kernel
theorem dX2_stepAhead_16 : decode cX2_stepAhead 16 = .ok (.if_icmp .ge 106, 3) := by decide +kernel
theorem dX2_stepAhead_19 : decode cX2_stepAhead 19 = .ok (.iconst 0, 1) := by decide +kernel
theorem dX2_stepAhead_20 : decode cX2_stepAhead 20 = .ok (.istore_n 3, 1) := by decide +kernel
theorem dX2_stepAhead_21 : decode cX2_stepAhead 21 = .ok (.iload_n 3, 1) := by decide +kernel
theorem dX2_stepAhead_22 : decode cX2_stepAhead 22 = .ok (.bipush 7, 2) := by decide +kernel
theorem dX2_stepAhead_24 : decode cX2_stepAhead 24 = .ok (.if_icmp .ge 92, 3) := by decide +kernel
theorem dX2_stepAhead_27 : decode cX2_stepAhead 27 = .ok (.aload_n 0, 1) := by decide +kernel
theorem dX2_stepAhead_28 : decode cX2_stepAhead 28 = .ok (.getfield 27, 3) := by decide +kernel
theorem dX2_stepAhead_31 : decode cX2_stepAhead 31 = .ok (.iload_n 2, 1) := by decide +kernel
theorem dX2_stepAhead_32 : decode cX2_stepAhead 32 = .ok (.invokevirtual 83, 3) := by decide +kernel
theorem dX2_stepAhead_35 : decode cX2_stepAhead 35 = .ok (.ldc 23, 2) := by decide +kernel
theorem dX2_stepAhead_37 : decode cX2_stepAhead 37 = .ok (.if_icmp .ge 79, 3) := by decide +kernel
theorem dX2_stepAhead_40 : decode cX2_stepAhead 40 = .ok (.aload_n 0, 1) := by decide +kernel
theorem dX2_stepAhead_41 : decode cX2_stepAhead 41 = .ok (.getfield 20, 3) := by decide +kernel
theorem dX2_stepAhead_44 : decode cX2_stepAhead 44 = .ok (.iload_n 2, 1) := by decide +kernel
theorem dX2_stepAhead_45 : decode cX2_stepAhead 45 = .ok (.bipush 7, 2) := by decide +kernel
theorem dX2_stepAhead_47 : decode cX2_stepAhead 47 = .ok (.imul, 1) := by decide +kernel
theorem dX2_stepAhead_48 : decode cX2_stepAhead 48 = .ok (.iload_n 3, 1) := by decide +kernel
theorem dX2_stepAhead_49 : decode cX2_stepAhead 49 = .ok (.iadd, 1) := by decide +kernel
theorem dX2_stepAhead_50 : decode cX2_stepAhead 50 = .ok (.invokevirtual 83, 3) := by decide +kernel
theorem dX2_stepAhead_53 : decode cX2_stepAhead 53 = .ok (.istore 4, 2) := by decide +kernel
theorem dX2_stepAhead_55 : decode cX2_stepAhead 55 = .ok (.aload_n 0, 1) := by decide +kernel
theorem dX2_stepAhead_56 : decode cX2_stepAhead 56 = .ok (.getfield 27, 3) := by decide +kernel
theorem dX2_stepAhead_59 : decode cX2_stepAhead 59 = .ok (.iload_n 2, 1) := by decide +kernel
theorem dX2_stepAhead_60 : decode cX2_stepAhead 60 = .ok (.invokevirtual 83, 3) := by decide +kernel
theorem dX2_stepAhead_63 : decode cX2_stepAhead 63 = .ok (.aload_n 0, 1) := by decide +kernel
theorem dX2_stepAhead_64 : decode cX2_stepAhead 64 = .ok (.getfield 16, 3) := by decide +kernel
theorem dX2_stepAhead_67 : decode cX2_stepAhead 67 = .ok (.iload_n 1, 1) := by decide +kernel
theorem dX2_stepAhead_68 : decode cX2_stepAhead 68 = .ok (.bipush 7, 2) := by decide +kernel
theorem dX2_stepAhead_70 : decode cX2_stepAhead 70 = .ok (.imul, 1) := by decide +kernel
theorem dX2_stepAhead_71 : decode cX2_stepAhead 71 = .ok (.iload_n 3, 1) := by decide +kernel
theorem dX2_stepAhead_72 : decode cX2_stepAhead 72 = .ok (.iadd, 1) := by decide +kernel
theorem dX2_stepAhead_73 : decode cX2_stepAhead 73 = .ok (.invokevirtual 83, 3) := by decide +kernel
theorem dX2_stepAhead_76 : decode cX2_stepAhead 76 = .ok (.iadd, 1) := by decide +kernel
theorem dX2_stepAhead_77 : decode cX2_stepAhead 77 = .ok (.istore 5, 2) := by decide +kernel
theorem dX2_stepAhead_79 : decode cX2_stepAhead 79 = .ok (.iload 4, 2) := by decide +kernel
theorem dX2_stepAhead_81 : decode cX2_stepAhead 81 = .ok (.iconst (-1), 1) := by decide +kernel
theorem dX2_stepAhead_82 : decode cX2_stepAhead 82 = .ok (.if_icmp .eq 28, 3) := by decide +kernel
theorem dX2_stepAhead_85 : decode cX2_stepAhead 85 = .ok (.iload 5, 2) := by decide +kernel
theorem dX2_stepAhead_87 : decode cX2_stepAhead 87 = .ok (.aload_n 0, 1) := by decide +kernel
theorem dX2_stepAhead_88 : decode cX2_stepAhead 88 = .ok (.getfield 30, 3) := by decide +kernel
theorem dX2_stepAhead_91 : decode cX2_stepAhead 91 = .ok (.iload 4, 2) := by decide +kernel
theorem dX2_stepAhead_93 : decode cX2_stepAhead 93 = .ok (.invokevirtual 83, 3) := by decide +kernel
theorem dX2_stepAhead_96 : decode cX2_stepAhead 96 = .ok (.if_icmp .ge 14, 3) := by decide +kernel
theorem dX2_stepAhead_99 : decode cX2_stepAhead 99 = .ok (.aload_n 0, 1) := by decide +kernel
theorem dX2_stepAhead_100 : decode cX2_stepAhead 100 = .ok (.getfield 30, 3) := by decide +kernel
theorem dX2_stepAhead_103 : decode cX2_stepAhead 103 = .ok (.iload 4, 2) := by decide +kernel
theorem dX2_stepAhead_105 : decode cX2_stepAhead 105 = .ok (.iload 5, 2) := by decide +kernel
theorem dX2_stepAhead_107 : decode cX2_stepAhead 107 = .ok (.invokevirtual 111, 3) := by decide +kernel
theorem dX2_stepAhead_110 : decode cX2_stepAhead 110 = .ok (.iinc 3 1, 3) := by decide +kernel
theorem dX2_stepAhead_113 : decode cX2_stepAhead 113 = .ok (.goto (-92), 3) := by decide +kernel
theorem dX2_stepAhead_116 : decode cX2_stepAhead 116 = .ok (.iinc 2 1, 3) := by decide +kernel
theorem dX2_stepAhead_119 : decode cX2_stepAhead 119 = .ok (.goto (-108), 3) := by decide +kernel
theorem dX2_stepAhead_122 : decode cX2_stepAhead 122 = .ok (.aload_n 0, 1) := by decide +kernel
theorem dX2_stepAhead_123 : decode cX2_stepAhead 123 = .ok (.getfield 27, 3) := by decide +kernel
theorem dX2_stepAhead_126 : decode cX2_stepAhead 126 = .ok (.aload_n 0, 1) := by decide +kernel
theorem dX2_stepAhead_127 : decode cX2_stepAhead 127 = .ok (.getfield 30, 3) := by decide +kernel
theorem dX2_stepAhead_130 : decode cX2_stepAhead 130 = .ok (.invokevirtual 156, 3) := by decide +kernel
theorem dX2_stepAhead_133 : decode cX2_stepAhead 133 = .ok (.return_, 1) := by decide +kernel
theorem dX2_workMeasures_0 : decode cX2_workMeasures 0 = .ok (.aload_n 0, 1) := by decide +kernel
theorem dX2_workMeasures_1 : decode cX2_workMeasures 1 = .ok (.iconst 0, 1) := by decide +kernel
theorem dX2_workMeasures_2 : decode cX2_workMeasures 2 = .ok (.putfield 55, 3) := by decide +kernel
theorem dX2_workMeasures_5 : decode cX2_workMeasures 5 = .ok (.iconst 0, 1) := by decide +kernel
theorem dX2_workMeasures_6 : decode cX2_workMeasures 6 = .ok (.istore_n 1, 1) := by decide +kernel
theorem dX2_workMeasures_7 : decode cX2_workMeasures 7 = .ok (.iconst (-1), 1) := by decide +kernel
theorem dX2_workMeasures_8 : decode cX2_workMeasures 8 = .ok (.istore_n 2, 1) := by decide +kernel
theorem dX2_workMeasures_9 : decode cX2_workMeasures 9 = .ok (.iconst 0, 1) := by decide +kernel
theorem dX2_workMeasures_10 : decode cX2_workMeasures 10 = .ok (.istore_n 3, 1) := by decide +kernel
theorem dX2_workMeasures_11 : decode cX2_workMeasures 11 = .ok (.iload_n 3, 1) := by decide +kernel
theorem dX2_workMeasures_12 : decode cX2_workMeasures 12 = .ok (.aload_n 0, 1) := by decide +kernel
theorem dX2_workMeasures_13 : decode cX2_workMeasures 13 = .ok (.getfield 45, 3) := by decide +kernel
theorem dX2_workMeasures_16 : decode cX2_workMeasures 16 = .ok (.if_icmp .ge 122, 3) := by decide +kernel
theorem dX2_workMeasures_19 : decode cX2_workMeasures 19 = .ok (.aload_n 0, 1) := by decide +kernel
theorem dX2_workMeasures_20 : decode cX2_workMeasures 20 = .ok (.getfield 33, 3) := by decide +kernel
theorem dX2_workMeasures_23 : decode cX2_workMeasures 23 = .ok (.iload_n 3, 1) := by decide +kernel
theorem dX2_workMeasures_24 : decode cX2_workMeasures 24 = .ok (.invokevirtual 83, 3) := by decide +kernel
theorem dX2_workMeasures_27 : decode cX2_workMeasures 27 = .ok (.istore 4, 2) := by decide +kernel
theorem dX2_workMeasures_29 : decode cX2_workMeasures 29 = .ok (.iload 4, 2) := by decide +kernel
theorem dX2_workMeasures_31 : decode cX2_workMeasures 31 = .ok (.iconst 5, 1) := by decide +kernel
theorem dX2_workMeasures_32 : decode cX2_workMeasures 32 = .ok (.if_icmp .ne 8, 3) := by decide +kernel
theorem dX2_workMeasures_35 : decode cX2_workMeasures 35 = .ok (.iconst 0, 1) := by decide +kernel
theorem dX2_workMeasures_36 : decode cX2_workMeasures 36 = .ok (.istore_n 1, 1) := by decide +kernel
theorem dX2_workMeasures_37 : decode cX2_workMeasures 37 = .ok (.goto 95, 3) := by decide +kernel
theorem dX2_workMeasures_40 : decode cX2_workMeasures 40 = .ok (.iload 4, 2) := by decide +kernel
theorem dX2_workMeasures_42 : decode cX2_workMeasures 42 = .ok (.iconst 4, 1) := by decide +kernel
theorem dX2_workMeasures_43 : decode cX2_workMeasures 43 = .ok (.if_icmp .ne 33, 3) := by decide +kernel
theorem dX2_workMeasures_46 : decode cX2_workMeasures 46 = .ok (.aload_n 0, 1) := by decide +kernel
theorem dX2_workMeasures_47 : decode cX2_workMeasures 47 = .ok (.getfield 42, 3) := by decide +kernel
theorem dX2_workMeasures_50 : decode cX2_workMeasures 50 = .ok (.iload_n 2, 1) := by decide +kernel
theorem dX2_workMeasures_51 : decode cX2_workMeasures 51 = .ok (.aload_n 0, 1) := by decide +kernel
theorem dX2_workMeasures_52 : decode cX2_workMeasures 52 = .ok (.getfield 42, 3) := by decide +kernel
theorem dX2_workMeasures_55 : decode cX2_workMeasures 55 = .ok (.iload_n 2, 1) := by decide +kernel
theorem dX2_workMeasures_56 : decode cX2_workMeasures 56 = .ok (.invokevirtual 83, 3) := by decide +kernel
theorem dX2_workMeasures_59 : decode cX2_workMeasures 59 = .ok (.aload_n 0, 1) := by decide +kernel
theorem dX2_workMeasures_60 : decode cX2_workMeasures 60 = .ok (.getfield 42, 3) := by decide +kernel
theorem dX2_workMeasures_63 : decode cX2_workMeasures 63 = .ok (.iload_n 2, 1) := by decide +kernel
theorem dX2_workMeasures_64 : decode cX2_workMeasures 64 = .ok (.invokevirtual 83, 3) := by decide +kernel
theorem dX2_workMeasures_67 : decode cX2_workMeasures 67 = .ok (.iconst 2, 1) := by decide +kernel
theorem dX2_workMeasures_68 : decode cX2_workMeasures 68 = .ok (.idiv, 1) := by decide +kernel
theorem dX2_workMeasures_69 : decode cX2_workMeasures 69 = .ok (.iadd, 1) := by decide +kernel
theorem dX2_workMeasures_70 : decode cX2_workMeasures 70 = .ok (.invokevirtual 111, 3) := by decide +kernel
theorem dX2_workMeasures_73 : decode cX2_workMeasures 73 = .ok (.goto 59, 3) := by decide +kernel
theorem dX2_workMeasures_76 : decode cX2_workMeasures 76 = .ok (.iload 4, 2) := by decide +kernel
theorem dX2_workMeasures_78 : decode cX2_workMeasures 78 = .ok (.bipush 6, 2) := by decide +kernel
theorem dX2_workMeasures_80 : decode cX2_workMeasures 80 = .ok (.if_icmp .eq 52, 3) := by decide +kernel
theorem dX2_workMeasures_83 : decode cX2_workMeasures 83 = .ok (.aload_n 0, 1) := by decide +kernel
theorem dX2_workMeasures_84 : decode cX2_workMeasures 84 = .ok (.dup, 1) := by decide +kernel
theorem dX2_workMeasures_85 : decode cX2_workMeasures 85 = .ok (.getfield 55, 3) := by decide +kernel
theorem dX2_workMeasures_88 : decode cX2_workMeasures 88 = .ok (.iload_n 1, 1) := by decide +kernel
theorem dX2_workMeasures_89 : decode cX2_workMeasures 89 = .ok (.ifCond .eq 7, 3) := by decide +kernel
theorem dX2_workMeasures_92 : decode cX2_workMeasures 92 = .ok (.iconst 0, 1) := by decide +kernel
theorem dX2_workMeasures_93 : decode cX2_workMeasures 93 = .ok (.goto 4, 3) := by decide +kernel
theorem dX2_workMeasures_96 : decode cX2_workMeasures 96 = .ok (.iconst 1, 1) := by decide +kernel
theorem dX2_workMeasures_97 : decode cX2_workMeasures 97 = .ok (.iadd, 1) := by decide +kernel
theorem dX2_workMeasures_98 : decode cX2_workMeasures 98 = .ok (.putfield 55, 3) := by decide +kernel
theorem dX2_workMeasures_101 : decode cX2_workMeasures 101 = .ok (.iconst 1, 1) := by decide +kernel
theorem dX2_workMeasures_102 : decode cX2_workMeasures 102 = .ok (.istore_n 1, 1) := by decide +kernel
theorem dX2_workMeasures_103 : decode cX2_workMeasures 103 = .ok (.iload_n 3, 1) := by decide +kernel
theorem dX2_workMeasures_104 : decode cX2_workMeasures 104 = .ok (.istore_n 2, 1) := by decide +kernel
theorem dX2_workMeasures_105 : decode cX2_workMeasures 105 = .ok (.aload_n 0, 1) := by decide +kernel
theorem dX2_workMeasures_106 : decode cX2_workMeasures 106 = .ok (.getfield 39, 3) := by decide +kernel
theorem dX2_workMeasures_109 : decode cX2_workMeasures 109 = .ok (.iload_n 3, 1) := by decide +kernel
theorem dX2_workMeasures_110 : decode cX2_workMeasures 110 = .ok (.aload_n 0, 1) := by decide +kernel
theorem dX2_workMeasures_111 : decode cX2_workMeasures 111 = .ok (.getfield 55, 3) := by decide +kernel
theorem dX2_workMeasures_114 : decode cX2_workMeasures 114 = .ok (.iconst 1, 1) := by decide +kernel
theorem dX2_workMeasures_115 : decode cX2_workMeasures 115 = .ok (.isub, 1) := by decide +kernel
theorem dX2_workMeasures_116 : decode cX2_workMeasures 116 = .ok (.invokevirtual 111, 3) := by decide +kernel
theorem dX2_workMeasures_119 : decode cX2_workMeasures 119 = .ok (.aload_n 0, 1) := by decide +kernel
theorem dX2_workMeasures_120 : decode cX2_workMeasures 120 = .ok (.getfield 42, 3) := by decide +kernel
theorem dX2_workMeasures_123 : decode cX2_workMeasures 123 = .ok (.iload_n 3, 1) := by decide +kernel
theorem dX2_workMeasures_124 : decode cX2_workMeasures 124 = .ok (.iload 4, 2) := by decide +kernel
theorem dX2_workMeasures_126 : decode cX2_workMeasures 126 = .ok (.invokestatic 120, 3) := by decide +kernel
theorem dX2_workMeasures_129 : decode cX2_workMeasures 129 = .ok (.invokevirtual 111, 3) := by decide +kernel
theorem dX2_workMeasures_132 : decode cX2_workMeasures 132 = .ok (.iinc 3 1, 3) := by decide +kernel
theorem dX2_workMeasures_135 : decode cX2_workMeasures 135 = .ok (.goto (-124), 3) := by decide +kernel
theorem dX2_workMeasures_138 : decode cX2_workMeasures 138 = .ok (.return_, 1) := by decide +kernel
theorem dX2_stands_0 : decode cX2_stands 0 = .ok (.aload_n 0, 1) := by decide +kernel
theorem dX2_stands_1 : decode cX2_stands 1 = .ok (.getfield 52, 3) := by decide +kernel
theorem dX2_stands_4 : decode cX2_stands 4 = .ok (.ldc 23, 2) := by decide +kernel
theorem dX2_stands_6 : decode cX2_stands 6 = .ok (.if_icmp .ge 7, 3) := by decide +kernel
theorem dX2_stands_9 : decode cX2_stands 9 = .ok (.iconst 1, 1) := by decide +kernel
theorem dX2_stands_10 : decode cX2_stands 10 = .ok (.goto 4, 3) := by decide +kernel
theorem dX2_stands_13 : decode cX2_stands 13 = .ok (.iconst 0, 1) := by decide +kernel
theorem dX2_stands_14 : decode cX2_stands 14 = .ok (.ireturn, 1) := by decide +kernel
theorem dX2_cost_0 : decode cX2_cost 0 = .ok (.aload_n 0, 1) := by decide +kernel
theorem dX2_cost_1 : decode cX2_cost 1 = .ok (.getfield 52, 3) := by decide +kernel
theorem dX2_cost_4 : decode cX2_cost 4 = .ok (.ireturn, 1) := by decide +kernel
theorem dX2_meaning_0 : decode cX2_meaning 0 = .ok (.aload_n 0, 1) := by decide +kernel
theorem dX2_meaning_1 : decode cX2_meaning 1 = .ok (.getfield 33, 3) := by decide +kernel
theorem dX2_meaning_4 : decode cX2_meaning 4 = .ok (.iload_n 1, 1) := by decide +kernel
theorem dX2_meaning_5 : decode cX2_meaning 5 = .ok (.invokevirtual 83, 3) := by decide +kernel
theorem dX2_meaning_8 : decode cX2_meaning 8 = .ok (.ireturn, 1) := by decide +kernel
theorem dX2_doubtOf_0 : decode cX2_doubtOf 0 = .ok (.aload_n 0, 1) := by decide +kernel
theorem dX2_doubtOf_1 : decode cX2_doubtOf 1 = .ok (.invokevirtual 160, 3) := by decide +kernel
theorem dX2_doubtOf_4 : decode cX2_doubtOf 4 = .ok (.aload_n 0, 1) := by decide +kernel
theorem dX2_doubtOf_5 : decode cX2_doubtOf 5 = .ok (.getfield 36, 3) := by decide +kernel
theorem dX2_doubtOf_8 : decode cX2_doubtOf 8 = .ok (.iload_n 1, 1) := by decide +kernel
theorem dX2_doubtOf_9 : decode cX2_doubtOf 9 = .ok (.invokevirtual 83, 3) := by decide +kernel
theorem dX2_doubtOf_12 : decode cX2_doubtOf 12 = .ok (.ireturn, 1) := by decide +kernel
theorem dX2_mostDoubtful_0 : decode cX2_mostDoubtful 0 = .ok (.aload_n 0, 1) := by decide +kernel
theorem dX2_mostDoubtful_1 : decode cX2_mostDoubtful 1 = .ok (.invokevirtual 160, 3) := by decide +kernel
theorem dX2_mostDoubtful_4 : decode cX2_mostDoubtful 4 = .ok (.iconst (-1), 1) := by decide +kernel
theorem dX2_mostDoubtful_5 : decode cX2_mostDoubtful 5 = .ok (.istore_n 1, 1) := by decide +kernel
theorem dX2_mostDoubtful_6 : decode cX2_mostDoubtful 6 = .ok (.iconst 0, 1) := by decide +kernel
theorem dX2_mostDoubtful_7 : decode cX2_mostDoubtful 7 = .ok (.istore_n 2, 1) := by decide +kernel
theorem dX2_mostDoubtful_8 : decode cX2_mostDoubtful 8 = .ok (.iload_n 2, 1) := by decide +kernel
theorem dX2_mostDoubtful_9 : decode cX2_mostDoubtful 9 = .ok (.aload_n 0, 1) := by decide +kernel
theorem dX2_mostDoubtful_10 : decode cX2_mostDoubtful 10 = .ok (.getfield 45, 3) := by decide +kernel
theorem dX2_mostDoubtful_13 : decode cX2_mostDoubtful 13 = .ok (.if_icmp .ge 47, 3) := by decide +kernel
theorem dX2_mostDoubtful_16 : decode cX2_mostDoubtful 16 = .ok (.aload_n 0, 1) := by decide +kernel
theorem dX2_mostDoubtful_17 : decode cX2_mostDoubtful 17 = .ok (.getfield 36, 3) := by decide +kernel
theorem dX2_mostDoubtful_20 : decode cX2_mostDoubtful 20 = .ok (.iload_n 2, 1) := by decide +kernel
theorem dX2_mostDoubtful_21 : decode cX2_mostDoubtful 21 = .ok (.invokevirtual 83, 3) := by decide +kernel
theorem dX2_mostDoubtful_24 : decode cX2_mostDoubtful 24 = .ok (.iconst (-1), 1) := by decide +kernel
theorem dX2_mostDoubtful_25 : decode cX2_mostDoubtful 25 = .ok (.if_icmp .eq 29, 3) := by decide +kernel
theorem dX2_mostDoubtful_28 : decode cX2_mostDoubtful 28 = .ok (.iload_n 1, 1) := by decide +kernel
theorem dX2_mostDoubtful_29 : decode cX2_mostDoubtful 29 = .ok (.iconst (-1), 1) := by decide +kernel
theorem dX2_mostDoubtful_30 : decode cX2_mostDoubtful 30 = .ok (.if_icmp .eq 22, 3) := by decide +kernel
theorem dX2_mostDoubtful_33 : decode cX2_mostDoubtful 33 = .ok (.aload_n 0, 1) := by decide +kernel
theorem dX2_mostDoubtful_34 : decode cX2_mostDoubtful 34 = .ok (.getfield 36, 3) := by decide +kernel
theorem dX2_mostDoubtful_37 : decode cX2_mostDoubtful 37 = .ok (.iload_n 2, 1) := by decide +kernel
theorem dX2_mostDoubtful_38 : decode cX2_mostDoubtful 38 = .ok (.invokevirtual 83, 3) := by decide +kernel
theorem dX2_mostDoubtful_41 : decode cX2_mostDoubtful 41 = .ok (.aload_n 0, 1) := by decide +kernel
theorem dX2_mostDoubtful_42 : decode cX2_mostDoubtful 42 = .ok (.getfield 36, 3) := by decide +kernel
theorem dX2_mostDoubtful_45 : decode cX2_mostDoubtful 45 = .ok (.iload_n 1, 1) := by decide +kernel
theorem dX2_mostDoubtful_46 : decode cX2_mostDoubtful 46 = .ok (.invokevirtual 83, 3) := by decide +kernel
theorem dX2_mostDoubtful_49 : decode cX2_mostDoubtful 49 = .ok (.if_icmp .ge 5, 3) := by decide +kernel
theorem dX2_mostDoubtful_52 : decode cX2_mostDoubtful 52 = .ok (.iload_n 2, 1) := by decide +kernel
theorem dX2_mostDoubtful_53 : decode cX2_mostDoubtful 53 = .ok (.istore_n 1, 1) := by decide +kernel
theorem dX2_mostDoubtful_54 : decode cX2_mostDoubtful 54 = .ok (.iinc 2 1, 3) := by decide +kernel
theorem dX2_mostDoubtful_57 : decode cX2_mostDoubtful 57 = .ok (.goto (-49), 3) := by decide +kernel
theorem dX2_mostDoubtful_60 : decode cX2_mostDoubtful 60 = .ok (.iload_n 1, 1) := by decide +kernel
theorem dX2_mostDoubtful_61 : decode cX2_mostDoubtful 61 = .ok (.ireturn, 1) := by decide +kernel
theorem dX2_measureCount_0 : decode cX2_measureCount 0 = .ok (.aload_n 0, 1) := by decide +kernel
theorem dX2_measureCount_1 : decode cX2_measureCount 1 = .ok (.getfield 55, 3) := by decide +kernel
theorem dX2_measureCount_4 : decode cX2_measureCount 4 = .ok (.ireturn, 1) := by decide +kernel
theorem dX2_noteSign_0 : decode cX2_noteSign 0 = .ok (.iconst 0, 1) := by decide +kernel
theorem dX2_noteSign_1 : decode cX2_noteSign 1 = .ok (.istore_n 3, 1) := by decide +kernel
theorem dX2_noteSign_2 : decode cX2_noteSign 2 = .ok (.iconst 0, 1) := by decide +kernel
theorem dX2_noteSign_3 : decode cX2_noteSign 3 = .ok (.istore 4, 2) := by decide +kernel
theorem dX2_noteSign_5 : decode cX2_noteSign 5 = .ok (.iload 4, 2) := by decide +kernel
theorem dX2_noteSign_7 : decode cX2_noteSign 7 = .ok (.aload_n 0, 1) := by decide +kernel
theorem dX2_noteSign_8 : decode cX2_noteSign 8 = .ok (.getfield 45, 3) := by decide +kernel
theorem dX2_noteSign_11 : decode cX2_noteSign 11 = .ok (.if_icmp .ge 46, 3) := by decide +kernel
theorem dX2_noteSign_14 : decode cX2_noteSign 14 = .ok (.aload_n 0, 1) := by decide +kernel
theorem dX2_noteSign_15 : decode cX2_noteSign 15 = .ok (.getfield 33, 3) := by decide +kernel
theorem dX2_noteSign_18 : decode cX2_noteSign 18 = .ok (.iload 4, 2) := by decide +kernel
theorem dX2_noteSign_20 : decode cX2_noteSign 20 = .ok (.invokevirtual 83, 3) := by decide +kernel
theorem dX2_noteSign_23 : decode cX2_noteSign 23 = .ok (.iconst 2, 1) := by decide +kernel
theorem dX2_noteSign_24 : decode cX2_noteSign 24 = .ok (.if_icmp .gt 27, 3) := by decide +kernel
theorem dX2_noteSign_27 : decode cX2_noteSign 27 = .ok (.aload_n 0, 1) := by decide +kernel
theorem dX2_noteSign_28 : decode cX2_noteSign 28 = .ok (.getfield 39, 3) := by decide +kernel
theorem dX2_noteSign_31 : decode cX2_noteSign 31 = .ok (.iload 4, 2) := by decide +kernel
theorem dX2_noteSign_33 : decode cX2_noteSign 33 = .ok (.invokevirtual 83, 3) := by decide +kernel
theorem dX2_noteSign_36 : decode cX2_noteSign 36 = .ok (.iload_n 1, 1) := by decide +kernel
theorem dX2_noteSign_37 : decode cX2_noteSign 37 = .ok (.if_icmp .ne 14, 3) := by decide +kernel
theorem dX2_noteSign_40 : decode cX2_noteSign 40 = .ok (.iload_n 3, 1) := by decide +kernel
theorem dX2_noteSign_41 : decode cX2_noteSign 41 = .ok (.iload_n 2, 1) := by decide +kernel
theorem dX2_noteSign_42 : decode cX2_noteSign 42 = .ok (.if_icmp .ne 6, 3) := by decide +kernel
theorem dX2_noteSign_45 : decode cX2_noteSign 45 = .ok (.iload 4, 2) := by decide +kernel
theorem dX2_noteSign_47 : decode cX2_noteSign 47 = .ok (.ireturn, 1) := by decide +kernel
theorem dX2_noteSign_48 : decode cX2_noteSign 48 = .ok (.iinc 3 1, 3) := by decide +kernel
theorem dX2_noteSign_51 : decode cX2_noteSign 51 = .ok (.iinc 4 1, 3) := by decide +kernel
theorem dX2_noteSign_54 : decode cX2_noteSign 54 = .ok (.goto (-49), 3) := by decide +kernel
theorem dX2_noteSign_57 : decode cX2_noteSign 57 = .ok (.iconst (-1), 1) := by decide +kernel
theorem dX2_noteSign_58 : decode cX2_noteSign 58 = .ok (.ireturn, 1) := by decide +kernel
theorem dX2_noteTime_0 : decode cX2_noteTime 0 = .ok (.aload_n 0, 1) := by decide +kernel
theorem dX2_noteTime_1 : decode cX2_noteTime 1 = .ok (.getfield 42, 3) := by decide +kernel
theorem dX2_noteTime_4 : decode cX2_noteTime 4 = .ok (.iload_n 1, 1) := by decide +kernel
theorem dX2_noteTime_5 : decode cX2_noteTime 5 = .ok (.invokevirtual 83, 3) := by decide +kernel
theorem dX2_noteTime_8 : decode cX2_noteTime 8 = .ok (.ireturn, 1) := by decide +kernel
theorem dX3_init_0 : decode cX3_init 0 = .ok (.aload_n 0, 1) := by decide +kernel
theorem dX3_init_1 : decode cX3_init 1 = .ok (.invokespecial 1, 3) := by decide +kernel
theorem dX3_init_4 : decode cX3_init 4 = .ok (.aload_n 0, 1) := by decide +kernel
theorem dX3_init_5 : decode cX3_init 5 = .ok (.iload_n 1, 1) := by decide +kernel
theorem dX3_init_6 : decode cX3_init 6 = .ok (.ifCond .le 7, 3) := by decide +kernel
theorem dX3_init_9 : decode cX3_init 9 = .ok (.iload_n 1, 1) := by decide +kernel
theorem dX3_init_10 : decode cX3_init 10 = .ok (.goto 4, 3) := by decide +kernel
theorem dX3_init_13 : decode cX3_init 13 = .ok (.iconst 0, 1) := by decide +kernel
theorem dX3_init_14 : decode cX3_init 14 = .ok (.newarray .int, 2) := by decide +kernel
theorem dX3_init_16 : decode cX3_init 16 = .ok (.putfield 7, 3) := by decide +kernel
theorem dX3_init_19 : decode cX3_init 19 = .ok (.aload_n 0, 1) := by decide +kernel
theorem dX3_init_20 : decode cX3_init 20 = .ok (.iload_n 2, 1) := by decide +kernel
theorem dX3_init_21 : decode cX3_init 21 = .ok (.invokevirtual 13, 3) := by decide +kernel
theorem dX3_init_24 : decode cX3_init 24 = .ok (.return_, 1) := by decide +kernel
theorem dX3_get_0 : decode cX3_get 0 = .ok (.iload_n 1, 1) := by decide +kernel
theorem dX3_get_1 : decode cX3_get 1 = .ok (.ifCond .lt 21, 3) := by decide +kernel
theorem dX3_get_4 : decode cX3_get 4 = .ok (.iload_n 1, 1) := by decide +kernel
theorem dX3_get_5 : decode cX3_get 5 = .ok (.aload_n 0, 1) := by decide +kernel
theorem dX3_get_6 : decode cX3_get 6 = .ok (.getfield 7, 3) := by decide +kernel
theorem dX3_get_9 : decode cX3_get 9 = .ok (.arraylength, 1) := by decide +kernel
theorem dX3_get_10 : decode cX3_get 10 = .ok (.if_icmp .ge 12, 3) := by decide +kernel
theorem dX3_get_13 : decode cX3_get 13 = .ok (.aload_n 0, 1) := by decide +kernel
theorem dX3_get_14 : decode cX3_get 14 = .ok (.getfield 7, 3) := by decide +kernel
theorem dX3_get_17 : decode cX3_get 17 = .ok (.iload_n 1, 1) := by decide +kernel
theorem dX3_get_18 : decode cX3_get 18 = .ok (.iaload, 1) := by decide +kernel
theorem dX3_get_19 : decode cX3_get 19 = .ok (.goto 4, 3) := by decide +kernel
theorem dX3_get_22 : decode cX3_get 22 = .ok (.iconst 0, 1) := by decide +kernel
theorem dX3_get_23 : decode cX3_get 23 = .ok (.ireturn, 1) := by decide +kernel
theorem dX3_put_0 : decode cX3_put 0 = .ok (.iload_n 1, 1) := by decide +kernel
theorem dX3_put_1 : decode cX3_put 1 = .ok (.ifCond .lt 19, 3) := by decide +kernel
theorem dX3_put_4 : decode cX3_put 4 = .ok (.iload_n 1, 1) := by decide +kernel
theorem dX3_put_5 : decode cX3_put 5 = .ok (.aload_n 0, 1) := by decide +kernel
theorem dX3_put_6 : decode cX3_put 6 = .ok (.getfield 7, 3) := by decide +kernel
theorem dX3_put_9 : decode cX3_put 9 = .ok (.arraylength, 1) := by decide +kernel
theorem dX3_put_10 : decode cX3_put 10 = .ok (.if_icmp .ge 10, 3) := by decide +kernel
theorem dX3_put_13 : decode cX3_put 13 = .ok (.aload_n 0, 1) := by decide +kernel
theorem dX3_put_14 : decode cX3_put 14 = .ok (.getfield 7, 3) := by decide +kernel
theorem dX3_put_17 : decode cX3_put 17 = .ok (.iload_n 1, 1) := by decide +kernel
theorem dX3_put_18 : decode cX3_put 18 = .ok (.iload_n 2, 1) := by decide +kernel
theorem dX3_put_19 : decode cX3_put 19 = .ok (.iastore, 1) := by decide +kernel
theorem dX3_put_20 : decode cX3_put 20 = .ok (.return_, 1) := by decide +kernel
theorem dX3_fill_0 : decode cX3_fill 0 = .ok (.iconst 0, 1) := by decide +kernel
theorem dX3_fill_1 : decode cX3_fill 1 = .ok (.istore_n 2, 1) := by decide +kernel
theorem dX3_fill_2 : decode cX3_fill 2 = .ok (.iload_n 2, 1) := by decide +kernel
theorem dX3_fill_3 : decode cX3_fill 3 = .ok (.aload_n 0, 1) := by decide +kernel
theorem dX3_fill_4 : decode cX3_fill 4 = .ok (.getfield 7, 3) := by decide +kernel
theorem dX3_fill_7 : decode cX3_fill 7 = .ok (.arraylength, 1) := by decide +kernel
theorem dX3_fill_8 : decode cX3_fill 8 = .ok (.if_icmp .ge 16, 3) := by decide +kernel
theorem dX3_fill_11 : decode cX3_fill 11 = .ok (.aload_n 0, 1) := by decide +kernel
theorem dX3_fill_12 : decode cX3_fill 12 = .ok (.getfield 7, 3) := by decide +kernel
theorem dX3_fill_15 : decode cX3_fill 15 = .ok (.iload_n 2, 1) := by decide +kernel
theorem dX3_fill_16 : decode cX3_fill 16 = .ok (.iload_n 1, 1) := by decide +kernel
theorem dX3_fill_17 : decode cX3_fill 17 = .ok (.iastore, 1) := by decide +kernel
theorem dX3_fill_18 : decode cX3_fill 18 = .ok (.iinc 2 1, 3) := by decide +kernel
theorem dX3_fill_21 : decode cX3_fill 21 = .ok (.goto (-19), 3) := by decide +kernel
theorem dX3_fill_24 : decode cX3_fill 24 = .ok (.return_, 1) := by decide +kernel
theorem dX3_copy_0 : decode cX3_copy 0 = .ok (.iconst 0, 1) := by decide +kernel
theorem dX3_copy_1 : decode cX3_copy 1 = .ok (.istore_n 2, 1) := by decide +kernel
theorem dX3_copy_2 : decode cX3_copy 2 = .ok (.iload_n 2, 1) := by decide +kernel
theorem dX3_copy_3 : decode cX3_copy 3 = .ok (.aload_n 0, 1) := by decide +kernel
theorem dX3_copy_4 : decode cX3_copy 4 = .ok (.getfield 7, 3) := by decide +kernel
theorem dX3_copy_7 : decode cX3_copy 7 = .ok (.arraylength, 1) := by decide +kernel
theorem dX3_copy_8 : decode cX3_copy 8 = .ok (.if_icmp .ge 20, 3) := by decide +kernel
theorem dX3_copy_11 : decode cX3_copy 11 = .ok (.aload_n 0, 1) := by decide +kernel
theorem dX3_copy_12 : decode cX3_copy 12 = .ok (.getfield 7, 3) := by decide +kernel
theorem dX3_copy_15 : decode cX3_copy 15 = .ok (.iload_n 2, 1) := by decide +kernel
theorem dX3_copy_16 : decode cX3_copy 16 = .ok (.aload_n 1, 1) := by decide +kernel
theorem dX3_copy_17 : decode cX3_copy 17 = .ok (.iload_n 2, 1) := by decide +kernel
theorem dX3_copy_18 : decode cX3_copy 18 = .ok (.invokevirtual 17, 3) := by decide +kernel
theorem dX3_copy_21 : decode cX3_copy 21 = .ok (.iastore, 1) := by decide +kernel
theorem dX3_copy_22 : decode cX3_copy 22 = .ok (.iinc 2 1, 3) := by decide +kernel
theorem dX3_copy_25 : decode cX3_copy 25 = .ok (.goto (-23), 3) := by decide +kernel
theorem dX3_copy_28 : decode cX3_copy 28 = .ok (.return_, 1) := by decide +kernel
theorem dX4_init_0 : decode cX4_init 0 = .ok (.aload_n 0, 1) := by decide +kernel
theorem dX4_init_1 : decode cX4_init 1 = .ok (.invokespecial 3, 3) := by decide +kernel
theorem dX4_init_4 : decode cX4_init 4 = .ok (.aload_n 0, 1) := by decide +kernel
theorem dX4_init_5 : decode cX4_init 5 = .ok (.bipush 32, 2) := by decide +kernel
theorem dX4_init_7 : decode cX4_init 7 = .ok (.newarray .long, 2) := by decide +kernel
theorem dX4_init_9 : decode cX4_init 9 = .ok (.putfield 9, 3) := by decide +kernel
theorem dX4_init_12 : decode cX4_init 12 = .ok (.return_, 1) := by decide +kernel
theorem dX4_at_0 : decode cX4_at 0 = .ok (.iload_n 1, 1) := by decide +kernel
theorem dX4_at_1 : decode cX4_at 1 = .ok (.ifCond .lt 21, 3) := by decide +kernel
theorem dX4_at_4 : decode cX4_at 4 = .ok (.iload_n 1, 1) := by decide +kernel
theorem dX4_at_5 : decode cX4_at 5 = .ok (.aload_n 0, 1) := by decide +kernel
theorem dX4_at_6 : decode cX4_at 6 = .ok (.getfield 9, 3) := by decide +kernel
theorem dX4_at_9 : decode cX4_at 9 = .ok (.arraylength, 1) := by decide +kernel
theorem dX4_at_10 : decode cX4_at 10 = .ok (.if_icmp .ge 12, 3) := by decide +kernel
theorem dX4_at_13 : decode cX4_at 13 = .ok (.aload_n 0, 1) := by decide +kernel
theorem dX4_at_14 : decode cX4_at 14 = .ok (.getfield 9, 3) := by decide +kernel
theorem dX4_at_17 : decode cX4_at 17 = .ok (.iload_n 1, 1) := by decide +kernel
theorem dX4_at_18 : decode cX4_at 18 = .ok (.laload, 1) := by decide +kernel
theorem dX4_at_19 : decode cX4_at 19 = .ok (.goto 4, 3) := by decide +kernel
theorem dX4_at_22 : decode cX4_at 22 = .ok (.lconst 0, 1) := by decide +kernel
theorem dX4_at_23 : decode cX4_at 23 = .ok (.lreturn, 1) := by decide +kernel
theorem dX4_put_0 : decode cX4_put 0 = .ok (.iload_n 1, 1) := by decide +kernel
theorem dX4_put_1 : decode cX4_put 1 = .ok (.ifCond .lt 19, 3) := by decide +kernel
theorem dX4_put_4 : decode cX4_put 4 = .ok (.iload_n 1, 1) := by decide +kernel
theorem dX4_put_5 : decode cX4_put 5 = .ok (.aload_n 0, 1) := by decide +kernel
theorem dX4_put_6 : decode cX4_put 6 = .ok (.getfield 9, 3) := by decide +kernel
theorem dX4_put_9 : decode cX4_put 9 = .ok (.arraylength, 1) := by decide +kernel
theorem dX4_put_10 : decode cX4_put 10 = .ok (.if_icmp .ge 10, 3) := by decide +kernel
theorem dX4_put_13 : decode cX4_put 13 = .ok (.aload_n 0, 1) := by decide +kernel
theorem dX4_put_14 : decode cX4_put 14 = .ok (.getfield 9, 3) := by decide +kernel
theorem dX4_put_17 : decode cX4_put 17 = .ok (.iload_n 1, 1) := by decide +kernel
theorem dX4_put_18 : decode cX4_put 18 = .ok (.lload_n 2, 1) := by decide +kernel
theorem dX4_put_19 : decode cX4_put 19 = .ok (.lastore, 1) := by decide +kernel
theorem dX4_put_20 : decode cX4_put 20 = .ok (.return_, 1) := by decide +kernel
theorem dX4_isBlack_0 : decode cX4_isBlack 0 = .ok (.iload_n 1, 1) := by decide +kernel
theorem dX4_isBlack_1 : decode cX4_isBlack 1 = .ok (.ifCond .lt 27, 3) := by decide +kernel
theorem dX4_isBlack_4 : decode cX4_isBlack 4 = .ok (.iload_n 1, 1) := by decide +kernel
theorem dX4_isBlack_5 : decode cX4_isBlack 5 = .ok (.bipush 60, 2) := by decide +kernel
theorem dX4_isBlack_7 : decode cX4_isBlack 7 = .ok (.if_icmp .ge 21, 3) := by decide +kernel
theorem dX4_isBlack_10 : decode cX4_isBlack 10 = .ok (.aload_n 0, 1) := by decide +kernel
theorem dX4_isBlack_11 : decode cX4_isBlack 11 = .ok (.iload_n 2, 1) := by decide +kernel
theorem dX4_isBlack_12 : decode cX4_isBlack 12 = .ok (.invokevirtual 15, 3) := by decide +kernel
theorem dX4_isBlack_15 : decode cX4_isBlack 15 = .ok (.iload_n 1, 1) := by decide +kernel
theorem dX4_isBlack_16 : decode cX4_isBlack 16 = .ok (.lushr, 1) := by decide +kernel
theorem dX4_isBlack_17 : decode cX4_isBlack 17 = .ok (.lconst 1, 1) := by decide +kernel
theorem dX4_isBlack_18 : decode cX4_isBlack 18 = .ok (.land, 1) := by decide +kernel
theorem dX4_isBlack_19 : decode cX4_isBlack 19 = .ok (.lconst 1, 1) := by decide +kernel
theorem dX4_isBlack_20 : decode cX4_isBlack 20 = .ok (.lcmp, 1) := by decide +kernel
theorem dX4_isBlack_21 : decode cX4_isBlack 21 = .ok (.ifCond .ne 7, 3) := by decide +kernel
theorem dX4_isBlack_24 : decode cX4_isBlack 24 = .ok (.iconst 1, 1) := by decide +kernel
theorem dX4_isBlack_25 : decode cX4_isBlack 25 = .ok (.goto 4, 3) := by decide +kernel
theorem dX4_isBlack_28 : decode cX4_isBlack 28 = .ok (.iconst 0, 1) := by decide +kernel
theorem dX4_isBlack_29 : decode cX4_isBlack 29 = .ok (.ireturn, 1) := by decide +kernel
theorem dX4_wipe_0 : decode cX4_wipe 0 = .ok (.iload_n 1, 1) := by decide +kernel
theorem dX4_wipe_1 : decode cX4_wipe 1 = .ok (.ifCond .lt 27, 3) := by decide +kernel
theorem dX4_wipe_4 : decode cX4_wipe 4 = .ok (.iload_n 1, 1) := by decide +kernel
theorem dX4_wipe_5 : decode cX4_wipe 5 = .ok (.bipush 60, 2) := by decide +kernel
theorem dX4_wipe_7 : decode cX4_wipe 7 = .ok (.if_icmp .ge 21, 3) := by decide +kernel
theorem dX4_wipe_10 : decode cX4_wipe 10 = .ok (.aload_n 0, 1) := by decide +kernel
theorem dX4_wipe_11 : decode cX4_wipe 11 = .ok (.iload_n 2, 1) := by decide +kernel
theorem dX4_wipe_12 : decode cX4_wipe 12 = .ok (.aload_n 0, 1) := by decide +kernel
theorem dX4_wipe_13 : decode cX4_wipe 13 = .ok (.iload_n 2, 1) := by decide +kernel
theorem dX4_wipe_14 : decode cX4_wipe 14 = .ok (.invokevirtual 15, 3) := by decide +kernel
theorem dX4_wipe_17 : decode cX4_wipe 17 = .ok (.lconst 1, 1) := by decide +kernel
theorem dX4_wipe_18 : decode cX4_wipe 18 = .ok (.iload_n 1, 1) := by decide +kernel
theorem dX4_wipe_19 : decode cX4_wipe 19 = .ok (.lshl, 1) := by decide +kernel
theorem dX4_wipe_20 : decode cX4_wipe 20 = .ok (.ldc2_w 19, 3) := by decide +kernel
theorem dX4_wipe_23 : decode cX4_wipe 23 = .ok (.lxor, 1) := by decide +kernel
theorem dX4_wipe_24 : decode cX4_wipe 24 = .ok (.land, 1) := by decide +kernel
theorem dX4_wipe_25 : decode cX4_wipe 25 = .ok (.invokevirtual 21, 3) := by decide +kernel
theorem dX4_wipe_28 : decode cX4_wipe 28 = .ok (.return_, 1) := by decide +kernel
theorem dX4_copy_0 : decode cX4_copy 0 = .ok (.iconst 0, 1) := by decide +kernel
theorem dX4_copy_1 : decode cX4_copy 1 = .ok (.istore_n 2, 1) := by decide +kernel
theorem dX4_copy_2 : decode cX4_copy 2 = .ok (.iload_n 2, 1) := by decide +kernel
theorem dX4_copy_3 : decode cX4_copy 3 = .ok (.aload_n 0, 1) := by decide +kernel
theorem dX4_copy_4 : decode cX4_copy 4 = .ok (.getfield 9, 3) := by decide +kernel
theorem dX4_copy_7 : decode cX4_copy 7 = .ok (.arraylength, 1) := by decide +kernel
theorem dX4_copy_8 : decode cX4_copy 8 = .ok (.if_icmp .ge 20, 3) := by decide +kernel
theorem dX4_copy_11 : decode cX4_copy 11 = .ok (.aload_n 0, 1) := by decide +kernel
theorem dX4_copy_12 : decode cX4_copy 12 = .ok (.getfield 9, 3) := by decide +kernel
theorem dX4_copy_15 : decode cX4_copy 15 = .ok (.iload_n 2, 1) := by decide +kernel
theorem dX4_copy_16 : decode cX4_copy 16 = .ok (.aload_n 1, 1) := by decide +kernel
theorem dX4_copy_17 : decode cX4_copy 17 = .ok (.iload_n 2, 1) := by decide +kernel
theorem dX4_copy_18 : decode cX4_copy 18 = .ok (.invokevirtual 15, 3) := by decide +kernel
theorem dX4_copy_21 : decode cX4_copy 21 = .ok (.lastore, 1) := by decide +kernel
theorem dX4_copy_22 : decode cX4_copy 22 = .ok (.iinc 2 1, 3) := by decide +kernel
theorem dX4_copy_25 : decode cX4_copy 25 = .ok (.goto (-23), 3) := by decide +kernel
theorem dX4_copy_28 : decode cX4_copy 28 = .ok (.return_, 1) := by decide +kernel
theorem dX4_paint_0 : decode cX4_paint 0 = .ok (.iconst 0, 1) := by decide +kernel
theorem dX4_paint_1 : decode cX4_paint 1 = .ok (.istore 6, 2) := by decide +kernel
theorem dX4_paint_3 : decode cX4_paint 3 = .ok (.iconst 0, 1) := by decide +kernel
theorem dX4_paint_4 : decode cX4_paint 4 = .ok (.istore 7, 2) := by decide +kernel
theorem dX4_paint_6 : decode cX4_paint 6 = .ok (.iload 7, 2) := by decide +kernel
theorem dX4_paint_8 : decode cX4_paint 8 = .ok (.iload_n 2, 1) := by decide +kernel
theorem dX4_paint_9 : decode cX4_paint 9 = .ok (.if_icmp .ge 64, 3) := by decide +kernel
theorem dX4_paint_12 : decode cX4_paint 12 = .ok (.aload_n 0, 1) := by decide +kernel
theorem dX4_paint_13 : decode cX4_paint 13 = .ok (.iload_n 1, 1) := by decide +kernel
theorem dX4_paint_14 : decode cX4_paint 14 = .ok (.iload 7, 2) := by decide +kernel
theorem dX4_paint_16 : decode cX4_paint 16 = .ok (.iadd, 1) := by decide +kernel
theorem dX4_paint_17 : decode cX4_paint 17 = .ok (.invokevirtual 15, 3) := by decide +kernel
theorem dX4_paint_20 : decode cX4_paint 20 = .ok (.lstore 8, 2) := by decide +kernel
theorem dX4_paint_22 : decode cX4_paint 22 = .ok (.iload 5, 2) := by decide +kernel
theorem dX4_paint_24 : decode cX4_paint 24 = .ok (.ifCond .eq 10, 3) := by decide +kernel
theorem dX4_paint_27 : decode cX4_paint 27 = .ok (.lload 8, 2) := by decide +kernel
theorem dX4_paint_29 : decode cX4_paint 29 = .ok (.lload_n 3, 1) := by decide +kernel
theorem dX4_paint_30 : decode cX4_paint 30 = .ok (.lor, 1) := by decide +kernel
theorem dX4_paint_31 : decode cX4_paint 31 = .ok (.goto 11, 3) := by decide +kernel
theorem dX4_paint_34 : decode cX4_paint 34 = .ok (.lload 8, 2) := by decide +kernel
theorem dX4_paint_36 : decode cX4_paint 36 = .ok (.lload_n 3, 1) := by decide +kernel
theorem dX4_paint_37 : decode cX4_paint 37 = .ok (.ldc2_w 19, 3) := by decide +kernel
theorem dX4_paint_40 : decode cX4_paint 40 = .ok (.lxor, 1) := by decide +kernel
theorem dX4_paint_41 : decode cX4_paint 41 = .ok (.land, 1) := by decide +kernel
theorem dX4_paint_42 : decode cX4_paint 42 = .ok (.lstore 10, 2) := by decide +kernel
theorem dX4_paint_44 : decode cX4_paint 44 = .ok (.iload 6, 2) := by decide +kernel
theorem dX4_paint_46 : decode cX4_paint 46 = .ok (.lload 8, 2) := by decide +kernel
theorem dX4_paint_48 : decode cX4_paint 48 = .ok (.lload 10, 2) := by decide +kernel
theorem dX4_paint_50 : decode cX4_paint 50 = .ok (.lxor, 1) := by decide +kernel
theorem dX4_paint_51 : decode cX4_paint 51 = .ok (.invokestatic 25, 3) := by decide +kernel
theorem dX4_paint_54 : decode cX4_paint 54 = .ok (.iadd, 1) := by decide +kernel
theorem dX4_paint_55 : decode cX4_paint 55 = .ok (.istore 6, 2) := by decide +kernel
theorem dX4_paint_57 : decode cX4_paint 57 = .ok (.aload_n 0, 1) := by decide +kernel
theorem dX4_paint_58 : decode cX4_paint 58 = .ok (.iload_n 1, 1) := by decide +kernel
theorem dX4_paint_59 : decode cX4_paint 59 = .ok (.iload 7, 2) := by decide +kernel
theorem dX4_paint_61 : decode cX4_paint 61 = .ok (.iadd, 1) := by decide +kernel
theorem dX4_paint_62 : decode cX4_paint 62 = .ok (.lload 10, 2) := by decide +kernel
theorem dX4_paint_64 : decode cX4_paint 64 = .ok (.invokevirtual 21, 3) := by decide +kernel
theorem dX4_paint_67 : decode cX4_paint 67 = .ok (.iinc 7 1, 3) := by decide +kernel
theorem dX4_paint_70 : decode cX4_paint 70 = .ok (.goto (-64), 3) := by decide +kernel
theorem dX4_paint_73 : decode cX4_paint 73 = .ok (.iload 6, 2) := by decide +kernel
theorem dX4_paint_75 : decode cX4_paint 75 = .ok (.ireturn, 1) := by decide +kernel
theorem dX4_blackDots_0 : decode cX4_blackDots 0 = .ok (.iconst 0, 1) := by decide +kernel
theorem dX4_blackDots_1 : decode cX4_blackDots 1 = .ok (.istore_n 1, 1) := by decide +kernel
theorem dX4_blackDots_2 : decode cX4_blackDots 2 = .ok (.iconst 0, 1) := by decide +kernel
theorem dX4_blackDots_3 : decode cX4_blackDots 3 = .ok (.istore_n 2, 1) := by decide +kernel
theorem dX4_blackDots_4 : decode cX4_blackDots 4 = .ok (.iload_n 2, 1) := by decide +kernel
theorem dX4_blackDots_5 : decode cX4_blackDots 5 = .ok (.aload_n 0, 1) := by decide +kernel
theorem dX4_blackDots_6 : decode cX4_blackDots 6 = .ok (.getfield 9, 3) := by decide +kernel
theorem dX4_blackDots_9 : decode cX4_blackDots 9 = .ok (.arraylength, 1) := by decide +kernel
theorem dX4_blackDots_10 : decode cX4_blackDots 10 = .ok (.if_icmp .ge 21, 3) := by decide +kernel
theorem dX4_blackDots_13 : decode cX4_blackDots 13 = .ok (.iload_n 1, 1) := by decide +kernel
theorem dX4_blackDots_14 : decode cX4_blackDots 14 = .ok (.aload_n 0, 1) := by decide +kernel
theorem dX4_blackDots_15 : decode cX4_blackDots 15 = .ok (.getfield 9, 3) := by decide +kernel
theorem dX4_blackDots_18 : decode cX4_blackDots 18 = .ok (.iload_n 2, 1) := by decide +kernel
theorem dX4_blackDots_19 : decode cX4_blackDots 19 = .ok (.laload, 1) := by decide +kernel
theorem dX4_blackDots_20 : decode cX4_blackDots 20 = .ok (.invokestatic 25, 3) := by decide +kernel
theorem dX4_blackDots_23 : decode cX4_blackDots 23 = .ok (.iadd, 1) := by decide +kernel
theorem dX4_blackDots_24 : decode cX4_blackDots 24 = .ok (.istore_n 1, 1) := by decide +kernel
theorem dX4_blackDots_25 : decode cX4_blackDots 25 = .ok (.iinc 2 1, 3) := by decide +kernel
theorem dX4_blackDots_28 : decode cX4_blackDots 28 = .ok (.goto (-24), 3) := by decide +kernel
theorem dX4_blackDots_31 : decode cX4_blackDots 31 = .ok (.iload_n 1, 1) := by decide +kernel
theorem dX4_blackDots_32 : decode cX4_blackDots 32 = .ok (.ireturn, 1) := by decide +kernel
theorem dX5_init_0 : decode cX5_init 0 = .ok (.aload_n 0, 1) := by decide +kernel
theorem dX5_init_1 : decode cX5_init 1 = .ok (.invokespecial 3, 3) := by decide +kernel
theorem dX5_init_4 : decode cX5_init 4 = .ok (.aload_n 0, 1) := by decide +kernel
theorem dX5_init_5 : decode cX5_init 5 = .ok (.new 9, 3) := by decide +kernel
theorem dX5_init_8 : decode cX5_init 8 = .ok (.dup, 1) := by decide +kernel
theorem dX5_init_9 : decode cX5_init 9 = .ok (.invokespecial 11, 3) := by decide +kernel
theorem dX5_init_12 : decode cX5_init 12 = .ok (.putfield 12, 3) := by decide +kernel
theorem dX5_init_15 : decode cX5_init 15 = .ok (.aload_n 0, 1) := by decide +kernel
theorem dX5_init_16 : decode cX5_init 16 = .ok (.new 18, 3) := by decide +kernel
theorem dX5_init_19 : decode cX5_init 19 = .ok (.dup, 1) := by decide +kernel
theorem dX5_init_20 : decode cX5_init 20 = .ok (.sipush 1920, 3) := by decide +kernel
theorem dX5_init_23 : decode cX5_init 23 = .ok (.iconst 0, 1) := by decide +kernel
theorem dX5_init_24 : decode cX5_init 24 = .ok (.invokespecial 20, 3) := by decide +kernel
theorem dX5_init_27 : decode cX5_init 27 = .ok (.putfield 23, 3) := by decide +kernel
theorem dX5_init_30 : decode cX5_init 30 = .ok (.aload_n 0, 1) := by decide +kernel
theorem dX5_init_31 : decode cX5_init 31 = .ok (.new 18, 3) := by decide +kernel
theorem dX5_init_34 : decode cX5_init 34 = .ok (.dup, 1) := by decide +kernel
theorem dX5_init_35 : decode cX5_init 35 = .ok (.sipush 240, 3) := by decide +kernel
theorem dX5_init_38 : decode cX5_init 38 = .ok (.iconst 0, 1) := by decide +kernel
theorem dX5_init_39 : decode cX5_init 39 = .ok (.invokespecial 20, 3) := by decide +kernel
theorem dX5_init_42 : decode cX5_init 42 = .ok (.putfield 27, 3) := by decide +kernel
theorem dX5_init_45 : decode cX5_init 45 = .ok (.aload_n 0, 1) := by decide +kernel
theorem dX5_init_46 : decode cX5_init 46 = .ok (.new 18, 3) := by decide +kernel
theorem dX5_init_49 : decode cX5_init 49 = .ok (.dup, 1) := by decide +kernel
theorem dX5_init_50 : decode cX5_init 50 = .ok (.bipush 40, 2) := by decide +kernel
theorem dX5_init_52 : decode cX5_init 52 = .ok (.iconst 0, 1) := by decide +kernel
theorem dX5_init_53 : decode cX5_init 53 = .ok (.invokespecial 20, 3) := by decide +kernel
theorem dX5_init_56 : decode cX5_init 56 = .ok (.putfield 30, 3) := by decide +kernel
theorem dX5_init_59 : decode cX5_init 59 = .ok (.aload_n 0, 1) := by decide +kernel
theorem dX5_init_60 : decode cX5_init 60 = .ok (.new 18, 3) := by decide +kernel
theorem dX5_init_63 : decode cX5_init 63 = .ok (.dup, 1) := by decide +kernel
theorem dX5_init_64 : decode cX5_init 64 = .ok (.bipush 40, 2) := by decide +kernel
theorem dX5_init_66 : decode cX5_init 66 = .ok (.iconst (-1), 1) := by decide +kernel
theorem dX5_init_67 : decode cX5_init 67 = .ok (.invokespecial 20, 3) := by decide +kernel
theorem dX5_init_70 : decode cX5_init 70 = .ok (.putfield 33, 3) := by decide +kernel
theorem dX5_init_73 : decode cX5_init 73 = .ok (.aload_n 0, 1) := by decide +kernel
theorem dX5_init_74 : decode cX5_init 74 = .ok (.iconst 0, 1) := by decide +kernel
theorem dX5_init_75 : decode cX5_init 75 = .ok (.putfield 36, 3) := by decide +kernel
theorem dX5_init_78 : decode cX5_init 78 = .ok (.aload_n 0, 1) := by decide +kernel
theorem dX5_init_79 : decode cX5_init 79 = .ok (.iconst (-1), 1) := by decide +kernel
theorem dX5_init_80 : decode cX5_init 80 = .ok (.putfield 40, 3) := by decide +kernel
theorem dX5_init_83 : decode cX5_init 83 = .ok (.return_, 1) := by decide +kernel
theorem dX5_gather_0 : decode cX5_gather 0 = .ok (.aload_n 0, 1) := by decide +kernel
theorem dX5_gather_1 : decode cX5_gather 1 = .ok (.getfield 12, 3) := by decide +kernel
theorem dX5_gather_4 : decode cX5_gather 4 = .ok (.aload_n 1, 1) := by decide +kernel
theorem dX5_gather_5 : decode cX5_gather 5 = .ok (.invokevirtual 43, 3) := by decide +kernel
theorem dX5_gather_8 : decode cX5_gather 8 = .ok (.aload_n 2, 1) := by decide +kernel
theorem dX5_gather_9 : decode cX5_gather 9 = .ok (.aload_n 0, 1) := by decide +kernel
theorem dX5_gather_10 : decode cX5_gather 10 = .ok (.getfield 12, 3) := by decide +kernel
theorem dX5_gather_13 : decode cX5_gather 13 = .ok (.invokevirtual 47, 3) := by decide +kernel
theorem dX5_gather_16 : decode cX5_gather 16 = .ok (.aload_n 0, 1) := by decide +kernel
theorem dX5_gather_17 : decode cX5_gather 17 = .ok (.iconst 0, 1) := by decide +kernel
theorem dX5_gather_18 : decode cX5_gather 18 = .ok (.putfield 36, 3) := by decide +kernel
theorem dX5_gather_21 : decode cX5_gather 21 = .ok (.iconst 0, 1) := by decide +kernel
theorem dX5_gather_22 : decode cX5_gather 22 = .ok (.istore_n 3, 1) := by decide +kernel
theorem dX5_gather_23 : decode cX5_gather 23 = .ok (.iload_n 3, 1) := by decide +kernel
theorem dX5_gather_24 : decode cX5_gather 24 = .ok (.bipush 32, 2) := by decide +kernel
theorem dX5_gather_26 : decode cX5_gather 26 = .ok (.if_icmp .ge 63, 3) := by decide +kernel
theorem dX5_gather_29 : decode cX5_gather 29 = .ok (.iconst 0, 1) := by decide +kernel
theorem dX5_gather_30 : decode cX5_gather 30 = .ok (.istore 4, 2) := by decide +kernel
theorem dX5_gather_32 : decode cX5_gather 32 = .ok (.iload 4, 2) := by decide +kernel
theorem dX5_gather_34 : decode cX5_gather 34 = .ok (.bipush 60, 2) := by decide +kernel
theorem dX5_gather_36 : decode cX5_gather 36 = .ok (.if_icmp .ge 47, 3) := by decide +kernel
theorem dX5_gather_39 : decode cX5_gather 39 = .ok (.aload_n 0, 1) := by decide +kernel
theorem dX5_gather_40 : decode cX5_gather 40 = .ok (.getfield 12, 3) := by decide +kernel
theorem dX5_gather_43 : decode cX5_gather 43 = .ok (.iload_n 3, 1) := by decide +kernel
theorem dX5_gather_44 : decode cX5_gather 44 = .ok (.invokevirtual 52, 3) := by decide +kernel
theorem dX5_gather_47 : decode cX5_gather 47 = .ok (.lconst 0, 1) := by decide +kernel
theorem dX5_gather_48 : decode cX5_gather 48 = .ok (.lcmp, 1) := by decide +kernel
theorem dX5_gather_49 : decode cX5_gather 49 = .ok (.ifCond .eq 34, 3) := by decide +kernel
theorem dX5_gather_52 : decode cX5_gather 52 = .ok (.aload_n 0, 1) := by decide +kernel
theorem dX5_gather_53 : decode cX5_gather 53 = .ok (.getfield 12, 3) := by decide +kernel
theorem dX5_gather_56 : decode cX5_gather 56 = .ok (.iload 4, 2) := by decide +kernel
theorem dX5_gather_58 : decode cX5_gather 58 = .ok (.iload_n 3, 1) := by decide +kernel
theorem dX5_gather_59 : decode cX5_gather 59 = .ok (.invokevirtual 56, 3) := by decide +kernel
theorem dX5_gather_62 : decode cX5_gather 62 = .ok (.ifCond .eq 15, 3) := by decide +kernel
theorem dX5_gather_65 : decode cX5_gather 65 = .ok (.aload_n 0, 1) := by decide +kernel
theorem dX5_gather_66 : decode cX5_gather 66 = .ok (.iload 4, 2) := by decide +kernel
theorem dX5_gather_68 : decode cX5_gather 68 = .ok (.iload_n 3, 1) := by decide +kernel
theorem dX5_gather_69 : decode cX5_gather 69 = .ok (.invokevirtual 60, 3) := by decide +kernel
theorem dX5_gather_72 : decode cX5_gather 72 = .ok (.ifCond .ne 5, 3) := by decide +kernel
theorem dX5_gather_75 : decode cX5_gather 75 = .ok (.iconst 0, 1) := by decide +kernel
theorem dX5_gather_76 : decode cX5_gather 76 = .ok (.ireturn, 1) := by decide +kernel
theorem dX5_gather_77 : decode cX5_gather 77 = .ok (.iinc 4 1, 3) := by decide +kernel
theorem dX5_gather_80 : decode cX5_gather 80 = .ok (.goto (-48), 3) := by decide +kernel
theorem dX5_gather_83 : decode cX5_gather 83 = .ok (.iinc 3 1, 3) := by decide +kernel
theorem dX5_gather_86 : decode cX5_gather 86 = .ok (.goto (-63), 3) := by decide +kernel
theorem dX5_gather_89 : decode cX5_gather 89 = .ok (.aload_n 0, 1) := by decide +kernel
theorem dX5_gather_90 : decode cX5_gather 90 = .ok (.aload_n 2, 1) := by decide +kernel
theorem dX5_gather_91 : decode cX5_gather 91 = .ok (.invokevirtual 63, 3) := by decide +kernel
theorem dX5_gather_94 : decode cX5_gather 94 = .ok (.aload_n 0, 1) := by decide +kernel
theorem dX5_gather_95 : decode cX5_gather 95 = .ok (.invokevirtual 67, 3) := by decide +kernel
theorem dX5_gather_98 : decode cX5_gather 98 = .ok (.iconst 1, 1) := by decide +kernel
theorem dX5_gather_99 : decode cX5_gather 99 = .ok (.ireturn, 1) := by decide +kernel
theorem dX5_add_0 : decode cX5_add 0 = .ok (.aload_n 0, 1) := by decide +kernel
theorem dX5_add_1 : decode cX5_add 1 = .ok (.getfield 36, 3) := by decide +kernel
theorem dX5_add_4 : decode cX5_add 4 = .ok (.bipush 40, 2) := by decide +kernel
theorem dX5_add_6 : decode cX5_add 6 = .ok (.if_icmp .lt 5, 3) := by decide +kernel
theorem dX5_add_9 : decode cX5_add 9 = .ok (.iconst 0, 1) := by decide +kernel
theorem dX5_add_10 : decode cX5_add 10 = .ok (.ireturn, 1) := by decide +kernel
theorem dX5_add_11 : decode cX5_add 11 = .ok (.aload_n 0, 1) := by decide +kernel
theorem dX5_add_12 : decode cX5_add 12 = .ok (.aload_n 0, 1) := by decide +kernel
theorem dX5_add_13 : decode cX5_add 13 = .ok (.getfield 36, 3) := by decide +kernel
theorem dX5_add_16 : decode cX5_add 16 = .ok (.iload_n 1, 1) := by decide +kernel
theorem dX5_add_17 : decode cX5_add 17 = .ok (.iload_n 2, 1) := by decide +kernel
theorem dX5_add_18 : decode cX5_add 18 = .ok (.invokevirtual 70, 3) := by decide +kernel
theorem dX5_add_21 : decode cX5_add 21 = .ok (.aload_n 0, 1) := by decide +kernel
theorem dX5_add_22 : decode cX5_add 22 = .ok (.aload_n 0, 1) := by decide +kernel
theorem dX5_add_23 : decode cX5_add 23 = .ok (.getfield 36, 3) := by decide +kernel
theorem dX5_add_26 : decode cX5_add 26 = .ok (.invokevirtual 74, 3) := by decide +kernel
theorem dX5_add_29 : decode cX5_add 29 = .ok (.aload_n 0, 1) := by decide +kernel
theorem dX5_add_30 : decode cX5_add 30 = .ok (.dup, 1) := by decide +kernel
theorem dX5_add_31 : decode cX5_add 31 = .ok (.getfield 36, 3) := by decide +kernel
theorem dX5_add_34 : decode cX5_add 34 = .ok (.iconst 1, 1) := by decide +kernel
theorem dX5_add_35 : decode cX5_add 35 = .ok (.iadd, 1) := by decide +kernel
theorem dX5_add_36 : decode cX5_add 36 = .ok (.putfield 36, 3) := by decide +kernel
theorem dX5_add_39 : decode cX5_add 39 = .ok (.iconst 1, 1) := by decide +kernel
theorem dX5_add_40 : decode cX5_add 40 = .ok (.ireturn, 1) := by decide +kernel
theorem dX5_flood_0 : decode cX5_flood 0 = .ok (.iconst 0, 1) := by decide +kernel
theorem dX5_flood_1 : decode cX5_flood 1 = .ok (.istore 4, 2) := by decide +kernel
theorem dX5_flood_3 : decode cX5_flood 3 = .ok (.aload_n 0, 1) := by decide +kernel
theorem dX5_flood_4 : decode cX5_flood 4 = .ok (.getfield 12, 3) := by decide +kernel
theorem dX5_flood_7 : decode cX5_flood 7 = .ok (.iload_n 2, 1) := by decide +kernel
theorem dX5_flood_8 : decode cX5_flood 8 = .ok (.iload_n 3, 1) := by decide +kernel
theorem dX5_flood_9 : decode cX5_flood 9 = .ok (.invokevirtual 78, 3) := by decide +kernel
theorem dX5_flood_12 : decode cX5_flood 12 = .ok (.aload_n 0, 1) := by decide +kernel
theorem dX5_flood_13 : decode cX5_flood 13 = .ok (.getfield 23, 3) := by decide +kernel
theorem dX5_flood_16 : decode cX5_flood 16 = .ok (.iload 4, 2) := by decide +kernel
theorem dX5_flood_18 : decode cX5_flood 18 = .ok (.iload_n 3, 1) := by decide +kernel
theorem dX5_flood_19 : decode cX5_flood 19 = .ok (.bipush 60, 2) := by decide +kernel
theorem dX5_flood_21 : decode cX5_flood 21 = .ok (.imul, 1) := by decide +kernel
theorem dX5_flood_22 : decode cX5_flood 22 = .ok (.iload_n 2, 1) := by decide +kernel
theorem dX5_flood_23 : decode cX5_flood 23 = .ok (.iadd, 1) := by decide +kernel
theorem dX5_flood_24 : decode cX5_flood 24 = .ok (.invokevirtual 81, 3) := by decide +kernel
theorem dX5_flood_27 : decode cX5_flood 27 = .ok (.iinc 4 1, 3) := by decide +kernel
theorem dX5_flood_30 : decode cX5_flood 30 = .ok (.aload_n 0, 1) := by decide +kernel
theorem dX5_flood_31 : decode cX5_flood 31 = .ok (.iload_n 1, 1) := by decide +kernel
theorem dX5_flood_32 : decode cX5_flood 32 = .ok (.iconst 0, 1) := by decide +kernel
theorem dX5_flood_33 : decode cX5_flood 33 = .ok (.iconst 0, 1) := by decide +kernel
theorem dX5_flood_34 : decode cX5_flood 34 = .ok (.invokevirtual 84, 3) := by decide +kernel
theorem dX5_flood_37 : decode cX5_flood 37 = .ok (.aload_n 0, 1) := by decide +kernel
theorem dX5_flood_38 : decode cX5_flood 38 = .ok (.iload_n 1, 1) := by decide +kernel
theorem dX5_flood_39 : decode cX5_flood 39 = .ok (.iconst 1, 1) := by decide +kernel
theorem dX5_flood_40 : decode cX5_flood 40 = .ok (.iload_n 2, 1) := by decide +kernel
theorem dX5_flood_41 : decode cX5_flood 41 = .ok (.invokevirtual 84, 3) := by decide +kernel
theorem dX5_flood_44 : decode cX5_flood 44 = .ok (.aload_n 0, 1) := by decide +kernel
theorem dX5_flood_45 : decode cX5_flood 45 = .ok (.iload_n 1, 1) := by decide +kernel
theorem dX5_flood_46 : decode cX5_flood 46 = .ok (.iconst 2, 1) := by decide +kernel
theorem dX5_flood_47 : decode cX5_flood 47 = .ok (.iload_n 3, 1) := by decide +kernel
theorem dX5_flood_48 : decode cX5_flood 48 = .ok (.invokevirtual 84, 3) := by decide +kernel
theorem dX5_flood_51 : decode cX5_flood 51 = .ok (.aload_n 0, 1) := by decide +kernel
theorem dX5_flood_52 : decode cX5_flood 52 = .ok (.iload_n 1, 1) := by decide +kernel
theorem dX5_flood_53 : decode cX5_flood 53 = .ok (.iconst 3, 1) := by decide +kernel
theorem dX5_flood_54 : decode cX5_flood 54 = .ok (.iload_n 2, 1) := by decide +kernel
theorem dX5_flood_55 : decode cX5_flood 55 = .ok (.invokevirtual 84, 3) := by decide +kernel
theorem dX5_flood_58 : decode cX5_flood 58 = .ok (.aload_n 0, 1) := by decide +kernel
theorem dX5_flood_59 : decode cX5_flood 59 = .ok (.iload_n 1, 1) := by decide +kernel
theorem dX5_flood_60 : decode cX5_flood 60 = .ok (.iconst 4, 1) := by decide +kernel
theorem dX5_flood_61 : decode cX5_flood 61 = .ok (.iload_n 3, 1) := by decide +kernel
theorem dX5_flood_62 : decode cX5_flood 62 = .ok (.invokevirtual 84, 3) := by decide +kernel
theorem dX5_flood_65 : decode cX5_flood 65 = .ok (.iconst 0, 1) := by decide +kernel
theorem dX5_flood_66 : decode cX5_flood 66 = .ok (.istore 5, 2) := by decide +kernel
theorem dX5_flood_68 : decode cX5_flood 68 = .ok (.iload 5, 2) := by decide +kernel
theorem dX5_flood_70 : decode cX5_flood 70 = .ok (.iload 4, 2) := by decide +kernel
theorem dX5_flood_72 : decode cX5_flood 72 = .ok (.if_icmp .ge 66, 3) := by decide +kernel
theorem dX5_flood_75 : decode cX5_flood 75 = .ok (.iload 5, 2) := by decide +kernel
theorem dX5_flood_77 : decode cX5_flood 77 = .ok (.sipush 1920, 3) := by decide +kernel
theorem dX5_flood_80 : decode cX5_flood 80 = .ok (.if_icmp .ge 58, 3) := by decide +kernel
theorem dX5_flood_83 : decode cX5_flood 83 = .ok (.aload_n 0, 1) := by decide +kernel
theorem dX5_flood_84 : decode cX5_flood 84 = .ok (.getfield 23, 3) := by decide +kernel
theorem dX5_flood_87 : decode cX5_flood 87 = .ok (.iload 5, 2) := by decide +kernel
theorem dX5_flood_89 : decode cX5_flood 89 = .ok (.invokevirtual 87, 3) := by decide +kernel
theorem dX5_flood_92 : decode cX5_flood 92 = .ok (.bipush 60, 2) := by decide +kernel
theorem dX5_flood_94 : decode cX5_flood 94 = .ok (.irem, 1) := by decide +kernel
theorem dX5_flood_95 : decode cX5_flood 95 = .ok (.istore 6, 2) := by decide +kernel
theorem dX5_flood_97 : decode cX5_flood 97 = .ok (.aload_n 0, 1) := by decide +kernel
theorem dX5_flood_98 : decode cX5_flood 98 = .ok (.getfield 23, 3) := by decide +kernel
theorem dX5_flood_101 : decode cX5_flood 101 = .ok (.iload 5, 2) := by decide +kernel
theorem dX5_flood_103 : decode cX5_flood 103 = .ok (.invokevirtual 87, 3) := by decide +kernel
theorem dX5_flood_106 : decode cX5_flood 106 = .ok (.bipush 60, 2) := by decide +kernel
theorem dX5_flood_108 : decode cX5_flood 108 = .ok (.idiv, 1) := by decide +kernel
theorem dX5_flood_109 : decode cX5_flood 109 = .ok (.istore 7, 2) := by decide +kernel
theorem dX5_flood_111 : decode cX5_flood 111 = .ok (.aload_n 0, 1) := by decide +kernel
theorem dX5_flood_112 : decode cX5_flood 112 = .ok (.iload_n 1, 1) := by decide +kernel
theorem dX5_flood_113 : decode cX5_flood 113 = .ok (.iload 6, 2) := by decide +kernel
theorem dX5_flood_115 : decode cX5_flood 115 = .ok (.iload 7, 2) := by decide +kernel
theorem dX5_flood_117 : decode cX5_flood 117 = .ok (.invokevirtual 91, 3) := by decide +kernel
theorem dX5_flood_120 : decode cX5_flood 120 = .ok (.aload_n 0, 1) := by decide +kernel
theorem dX5_flood_121 : decode cX5_flood 121 = .ok (.iload 6, 2) := by decide +kernel
theorem dX5_flood_123 : decode cX5_flood 123 = .ok (.iload 7, 2) := by decide +kernel
theorem dX5_flood_125 : decode cX5_flood 125 = .ok (.iload 4, 2) := by decide +kernel
theorem dX5_flood_127 : decode cX5_flood 127 = .ok (.invokevirtual 94, 3) := by decide +kernel
theorem dX5_flood_130 : decode cX5_flood 130 = .ok (.istore 4, 2) := by decide +kernel
theorem dX5_flood_132 : decode cX5_flood 132 = .ok (.iinc 5 1, 3) := by decide +kernel
theorem dX5_flood_135 : decode cX5_flood 135 = .ok (.goto (-67), 3) := by decide +kernel
theorem dX5_flood_138 : decode cX5_flood 138 = .ok (.return_, 1) := by decide +kernel
theorem dX5_queueNeighbours_0 : decode cX5_queueNeighbours 0 = .ok (.iload_n 3, 1) := by decide +kernel
theorem dX5_queueNeighbours_1 : decode cX5_queueNeighbours 1 = .ok (.istore 4, 2) := by decide +kernel
theorem dX5_queueNeighbours_3 : decode cX5_queueNeighbours 3 = .ok (.iload_n 2, 1) := by decide +kernel
theorem dX5_queueNeighbours_4 : decode cX5_queueNeighbours 4 = .ok (.iconst 1, 1) := by decide +kernel
theorem dX5_queueNeighbours_5 : decode cX5_queueNeighbours 5 = .ok (.isub, 1) := by decide +kernel
theorem dX5_queueNeighbours_6 : decode cX5_queueNeighbours 6 = .ok (.istore 5, 2) := by decide +kernel
theorem dX5_queueNeighbours_8 : decode cX5_queueNeighbours 8 = .ok (.iload 5, 2) := by decide +kernel
theorem dX5_queueNeighbours_10 : decode cX5_queueNeighbours 10 = .ok (.iload_n 2, 1) := by decide +kernel
theorem dX5_queueNeighbours_11 : decode cX5_queueNeighbours 11 = .ok (.iconst 1, 1) := by decide +kernel
theorem dX5_queueNeighbours_12 : decode cX5_queueNeighbours 12 = .ok (.iadd, 1) := by decide +kernel
theorem dX5_queueNeighbours_13 : decode cX5_queueNeighbours 13 = .ok (.if_icmp .gt 73, 3) := by decide +kernel
theorem dX5_queueNeighbours_16 : decode cX5_queueNeighbours 16 = .ok (.iload_n 1, 1) := by decide +kernel
theorem dX5_queueNeighbours_17 : decode cX5_queueNeighbours 17 = .ok (.iconst 1, 1) := by decide +kernel
theorem dX5_queueNeighbours_18 : decode cX5_queueNeighbours 18 = .ok (.isub, 1) := by decide +kernel
theorem dX5_queueNeighbours_19 : decode cX5_queueNeighbours 19 = .ok (.istore 6, 2) := by decide +kernel
theorem dX5_queueNeighbours_21 : decode cX5_queueNeighbours 21 = .ok (.iload 6, 2) := by decide +kernel
theorem dX5_queueNeighbours_23 : decode cX5_queueNeighbours 23 = .ok (.iload_n 1, 1) := by decide +kernel
theorem dX5_queueNeighbours_24 : decode cX5_queueNeighbours 24 = .ok (.iconst 1, 1) := by decide +kernel
theorem dX5_queueNeighbours_25 : decode cX5_queueNeighbours 25 = .ok (.iadd, 1) := by decide +kernel
theorem dX5_queueNeighbours_26 : decode cX5_queueNeighbours 26 = .ok (.if_icmp .gt 54, 3) := by decide +kernel
theorem dX5_queueNeighbours_29 : decode cX5_queueNeighbours 29 = .ok (.aload_n 0, 1) := by decide +kernel
theorem dX5_queueNeighbours_30 : decode cX5_queueNeighbours 30 = .ok (.getfield 12, 3) := by decide +kernel
theorem dX5_queueNeighbours_33 : decode cX5_queueNeighbours 33 = .ok (.iload 6, 2) := by decide +kernel
theorem dX5_queueNeighbours_35 : decode cX5_queueNeighbours 35 = .ok (.iload 5, 2) := by decide +kernel
theorem dX5_queueNeighbours_37 : decode cX5_queueNeighbours 37 = .ok (.invokevirtual 56, 3) := by decide +kernel
theorem dX5_queueNeighbours_40 : decode cX5_queueNeighbours 40 = .ok (.ifCond .eq 34, 3) := by decide +kernel
theorem dX5_queueNeighbours_43 : decode cX5_queueNeighbours 43 = .ok (.aload_n 0, 1) := by decide +kernel
theorem dX5_queueNeighbours_44 : decode cX5_queueNeighbours 44 = .ok (.getfield 12, 3) := by decide +kernel
theorem dX5_queueNeighbours_47 : decode cX5_queueNeighbours 47 = .ok (.iload 6, 2) := by decide +kernel
theorem dX5_queueNeighbours_49 : decode cX5_queueNeighbours 49 = .ok (.iload 5, 2) := by decide +kernel
theorem dX5_queueNeighbours_51 : decode cX5_queueNeighbours 51 = .ok (.invokevirtual 78, 3) := by decide +kernel
theorem dX5_queueNeighbours_54 : decode cX5_queueNeighbours 54 = .ok (.aload_n 0, 1) := by decide +kernel
theorem dX5_queueNeighbours_55 : decode cX5_queueNeighbours 55 = .ok (.getfield 23, 3) := by decide +kernel
theorem dX5_queueNeighbours_58 : decode cX5_queueNeighbours 58 = .ok (.iload 4, 2) := by decide +kernel
theorem dX5_queueNeighbours_60 : decode cX5_queueNeighbours 60 = .ok (.iload 5, 2) := by decide +kernel
theorem dX5_queueNeighbours_62 : decode cX5_queueNeighbours 62 = .ok (.bipush 60, 2) := by decide +kernel
theorem dX5_queueNeighbours_64 : decode cX5_queueNeighbours 64 = .ok (.imul, 1) := by decide +kernel
theorem dX5_queueNeighbours_65 : decode cX5_queueNeighbours 65 = .ok (.iload 6, 2) := by decide +kernel
theorem dX5_queueNeighbours_67 : decode cX5_queueNeighbours 67 = .ok (.iadd, 1) := by decide +kernel
theorem dX5_queueNeighbours_68 : decode cX5_queueNeighbours 68 = .ok (.invokevirtual 81, 3) := by decide +kernel
theorem dX5_queueNeighbours_71 : decode cX5_queueNeighbours 71 = .ok (.iinc 4 1, 3) := by decide +kernel
theorem dX5_queueNeighbours_74 : decode cX5_queueNeighbours 74 = .ok (.iinc 6 1, 3) := by decide +kernel
theorem dX5_queueNeighbours_77 : decode cX5_queueNeighbours 77 = .ok (.goto (-56), 3) := by decide +kernel
theorem dX5_queueNeighbours_80 : decode cX5_queueNeighbours 80 = .ok (.iinc 5 1, 3) := by decide +kernel
theorem dX5_queueNeighbours_83 : decode cX5_queueNeighbours 83 = .ok (.goto (-75), 3) := by decide +kernel
theorem dX5_queueNeighbours_86 : decode cX5_queueNeighbours 86 = .ok (.iload 4, 2) := by decide +kernel
theorem dX5_queueNeighbours_88 : decode cX5_queueNeighbours 88 = .ok (.ireturn, 1) := by decide +kernel
theorem dX5_include_0 : decode cX5_include 0 = .ok (.aload_n 0, 1) := by decide +kernel
theorem dX5_include_1 : decode cX5_include 1 = .ok (.iload_n 1, 1) := by decide +kernel
theorem dX5_include_2 : decode cX5_include 2 = .ok (.iconst 0, 1) := by decide +kernel
theorem dX5_include_3 : decode cX5_include 3 = .ok (.aload_n 0, 1) := by decide +kernel
theorem dX5_include_4 : decode cX5_include 4 = .ok (.iload_n 1, 1) := by decide +kernel
theorem dX5_include_5 : decode cX5_include 5 = .ok (.iconst 0, 1) := by decide +kernel
theorem dX5_include_6 : decode cX5_include 6 = .ok (.invokevirtual 98, 3) := by decide +kernel
theorem dX5_include_9 : decode cX5_include 9 = .ok (.iconst 1, 1) := by decide +kernel
theorem dX5_include_10 : decode cX5_include 10 = .ok (.iadd, 1) := by decide +kernel
theorem dX5_include_11 : decode cX5_include 11 = .ok (.invokevirtual 84, 3) := by decide +kernel
theorem dX5_include_14 : decode cX5_include 14 = .ok (.aload_n 0, 1) := by decide +kernel
theorem dX5_include_15 : decode cX5_include 15 = .ok (.iload_n 1, 1) := by decide +kernel
theorem dX5_include_16 : decode cX5_include 16 = .ok (.iconst 1, 1) := by decide +kernel
theorem dX5_include_17 : decode cX5_include 17 = .ok (.aload_n 0, 1) := by decide +kernel
theorem dX5_include_18 : decode cX5_include 18 = .ok (.iload_n 1, 1) := by decide +kernel
theorem dX5_include_19 : decode cX5_include 19 = .ok (.iconst 1, 1) := by decide +kernel
theorem dX5_include_20 : decode cX5_include 20 = .ok (.invokevirtual 98, 3) := by decide +kernel
theorem dX5_include_23 : decode cX5_include 23 = .ok (.iload_n 2, 1) := by decide +kernel
theorem dX5_include_24 : decode cX5_include 24 = .ok (.invokestatic 102, 3) := by decide +kernel
theorem dX5_include_27 : decode cX5_include 27 = .ok (.invokevirtual 84, 3) := by decide +kernel
theorem dX5_include_30 : decode cX5_include 30 = .ok (.aload_n 0, 1) := by decide +kernel
theorem dX5_include_31 : decode cX5_include 31 = .ok (.iload_n 1, 1) := by decide +kernel
theorem dX5_include_32 : decode cX5_include 32 = .ok (.iconst 2, 1) := by decide +kernel
theorem dX5_include_33 : decode cX5_include 33 = .ok (.aload_n 0, 1) := by decide +kernel
theorem dX5_include_34 : decode cX5_include 34 = .ok (.iload_n 1, 1) := by decide +kernel
theorem dX5_include_35 : decode cX5_include 35 = .ok (.iconst 2, 1) := by decide +kernel
theorem dX5_include_36 : decode cX5_include 36 = .ok (.invokevirtual 98, 3) := by decide +kernel
theorem dX5_include_39 : decode cX5_include 39 = .ok (.iload_n 3, 1) := by decide +kernel
theorem dX5_include_40 : decode cX5_include 40 = .ok (.invokestatic 102, 3) := by decide +kernel
theorem dX5_include_43 : decode cX5_include 43 = .ok (.invokevirtual 84, 3) := by decide +kernel
theorem dX5_include_46 : decode cX5_include 46 = .ok (.aload_n 0, 1) := by decide +kernel
theorem dX5_include_47 : decode cX5_include 47 = .ok (.iload_n 1, 1) := by decide +kernel
theorem dX5_include_48 : decode cX5_include 48 = .ok (.iconst 3, 1) := by decide +kernel
theorem dX5_include_49 : decode cX5_include 49 = .ok (.aload_n 0, 1) := by decide +kernel
theorem dX5_include_50 : decode cX5_include 50 = .ok (.iload_n 1, 1) := by decide +kernel
theorem dX5_include_51 : decode cX5_include 51 = .ok (.iconst 3, 1) := by decide +kernel
theorem dX5_include_52 : decode cX5_include 52 = .ok (.invokevirtual 98, 3) := by decide +kernel
theorem dX5_include_55 : decode cX5_include 55 = .ok (.iload_n 2, 1) := by decide +kernel
theorem dX5_include_56 : decode cX5_include 56 = .ok (.invokestatic 107, 3) := by decide +kernel
theorem dX5_include_59 : decode cX5_include 59 = .ok (.invokevirtual 84, 3) := by decide +kernel
theorem dX5_include_62 : decode cX5_include 62 = .ok (.aload_n 0, 1) := by decide +kernel
theorem dX5_include_63 : decode cX5_include 63 = .ok (.iload_n 1, 1) := by decide +kernel
theorem dX5_include_64 : decode cX5_include 64 = .ok (.iconst 4, 1) := by decide +kernel
theorem dX5_include_65 : decode cX5_include 65 = .ok (.aload_n 0, 1) := by decide +kernel
theorem dX5_include_66 : decode cX5_include 66 = .ok (.iload_n 1, 1) := by decide +kernel
theorem dX5_include_67 : decode cX5_include 67 = .ok (.iconst 4, 1) := by decide +kernel
theorem dX5_include_68 : decode cX5_include 68 = .ok (.invokevirtual 98, 3) := by decide +kernel
theorem dX5_include_71 : decode cX5_include 71 = .ok (.iload_n 3, 1) := by decide +kernel
theorem dX5_include_72 : decode cX5_include 72 = .ok (.invokestatic 107, 3) := by decide +kernel
theorem dX5_include_75 : decode cX5_include 75 = .ok (.invokevirtual 84, 3) := by decide +kernel
theorem dX5_include_78 : decode cX5_include 78 = .ok (.return_, 1) := by decide +kernel
theorem dX5_order_0 : decode cX5_order 0 = .ok (.iload_n 1, 1) := by decide +kernel
theorem dX5_order_1 : decode cX5_order 1 = .ok (.istore_n 2, 1) := by decide +kernel
theorem dX5_order_2 : decode cX5_order 2 = .ok (.iload_n 2, 1) := by decide +kernel
theorem dX5_order_3 : decode cX5_order 3 = .ok (.ifCond .le 45, 3) := by decide +kernel
theorem dX5_order_6 : decode cX5_order 6 = .ok (.aload_n 0, 1) := by decide +kernel
theorem dX5_order_7 : decode cX5_order 7 = .ok (.iload_n 1, 1) := by decide +kernel
theorem dX5_order_8 : decode cX5_order 8 = .ok (.aload_n 0, 1) := by decide +kernel
theorem dX5_order_9 : decode cX5_order 9 = .ok (.getfield 30, 3) := by decide +kernel
theorem dX5_order_12 : decode cX5_order 12 = .ok (.iload_n 2, 1) := by decide +kernel
theorem dX5_order_13 : decode cX5_order 13 = .ok (.iconst 1, 1) := by decide +kernel
theorem dX5_order_14 : decode cX5_order 14 = .ok (.isub, 1) := by decide +kernel
theorem dX5_order_15 : decode cX5_order 15 = .ok (.invokevirtual 87, 3) := by decide +kernel
theorem dX5_order_18 : decode cX5_order 18 = .ok (.invokevirtual 110, 3) := by decide +kernel
theorem dX5_order_21 : decode cX5_order 21 = .ok (.ifCond .eq 27, 3) := by decide +kernel
theorem dX5_order_24 : decode cX5_order 24 = .ok (.aload_n 0, 1) := by decide +kernel
theorem dX5_order_25 : decode cX5_order 25 = .ok (.getfield 30, 3) := by decide +kernel
theorem dX5_order_28 : decode cX5_order 28 = .ok (.iload_n 2, 1) := by decide +kernel
theorem dX5_order_29 : decode cX5_order 29 = .ok (.aload_n 0, 1) := by decide +kernel
theorem dX5_order_30 : decode cX5_order 30 = .ok (.getfield 30, 3) := by decide +kernel
theorem dX5_order_33 : decode cX5_order 33 = .ok (.iload_n 2, 1) := by decide +kernel
theorem dX5_order_34 : decode cX5_order 34 = .ok (.iconst 1, 1) := by decide +kernel
theorem dX5_order_35 : decode cX5_order 35 = .ok (.isub, 1) := by decide +kernel
theorem dX5_order_36 : decode cX5_order 36 = .ok (.invokevirtual 87, 3) := by decide +kernel
theorem dX5_order_39 : decode cX5_order 39 = .ok (.invokevirtual 81, 3) := by decide +kernel
theorem dX5_order_42 : decode cX5_order 42 = .ok (.iinc 2 (-1), 3) := by decide +kernel
theorem dX5_order_45 : decode cX5_order 45 = .ok (.goto (-43), 3) := by decide +kernel
theorem dX5_order_48 : decode cX5_order 48 = .ok (.aload_n 0, 1) := by decide +kernel
theorem dX5_order_49 : decode cX5_order 49 = .ok (.getfield 30, 3) := by decide +kernel
theorem dX5_order_52 : decode cX5_order 52 = .ok (.iload_n 2, 1) := by decide +kernel
theorem dX5_order_53 : decode cX5_order 53 = .ok (.iload_n 1, 1) := by decide +kernel
theorem dX5_order_54 : decode cX5_order 54 = .ok (.invokevirtual 81, 3) := by decide +kernel
theorem dX5_order_57 : decode cX5_order 57 = .ok (.return_, 1) := by decide +kernel
theorem dX5_isAhead_0 : decode cX5_isAhead 0 = .ok (.aload_n 0, 1) := by decide +kernel
theorem dX5_isAhead_1 : decode cX5_isAhead 1 = .ok (.iload_n 1, 1) := by decide +kernel
theorem dX5_isAhead_2 : decode cX5_isAhead 2 = .ok (.iconst 1, 1) := by decide +kernel
theorem dX5_isAhead_3 : decode cX5_isAhead 3 = .ok (.invokevirtual 98, 3) := by decide +kernel
theorem dX5_isAhead_6 : decode cX5_isAhead 6 = .ok (.aload_n 0, 1) := by decide +kernel
theorem dX5_isAhead_7 : decode cX5_isAhead 7 = .ok (.iload_n 2, 1) := by decide +kernel
theorem dX5_isAhead_8 : decode cX5_isAhead 8 = .ok (.iconst 1, 1) := by decide +kernel
theorem dX5_isAhead_9 : decode cX5_isAhead 9 = .ok (.invokevirtual 98, 3) := by decide +kernel
theorem dX5_isAhead_12 : decode cX5_isAhead 12 = .ok (.if_icmp .eq 24, 3) := by decide +kernel
theorem dX5_isAhead_15 : decode cX5_isAhead 15 = .ok (.aload_n 0, 1) := by decide +kernel
theorem dX5_isAhead_16 : decode cX5_isAhead 16 = .ok (.iload_n 1, 1) := by decide +kernel
theorem dX5_isAhead_17 : decode cX5_isAhead 17 = .ok (.iconst 1, 1) := by decide +kernel
theorem dX5_isAhead_18 : decode cX5_isAhead 18 = .ok (.invokevirtual 98, 3) := by decide +kernel
theorem dX5_isAhead_21 : decode cX5_isAhead 21 = .ok (.aload_n 0, 1) := by decide +kernel
theorem dX5_isAhead_22 : decode cX5_isAhead 22 = .ok (.iload_n 2, 1) := by decide +kernel
theorem dX5_isAhead_23 : decode cX5_isAhead 23 = .ok (.iconst 1, 1) := by decide +kernel
theorem dX5_isAhead_24 : decode cX5_isAhead 24 = .ok (.invokevirtual 98, 3) := by decide +kernel
theorem dX5_isAhead_27 : decode cX5_isAhead 27 = .ok (.if_icmp .ge 7, 3) := by decide +kernel
theorem dX5_isAhead_30 : decode cX5_isAhead 30 = .ok (.iconst 1, 1) := by decide +kernel
theorem dX5_isAhead_31 : decode cX5_isAhead 31 = .ok (.goto 4, 3) := by decide +kernel
theorem dX5_isAhead_34 : decode cX5_isAhead 34 = .ok (.iconst 0, 1) := by decide +kernel
theorem dX5_isAhead_35 : decode cX5_isAhead 35 = .ok (.ireturn, 1) := by decide +kernel
theorem dX5_isAhead_36 : decode cX5_isAhead 36 = .ok (.aload_n 0, 1) := by decide +kernel
theorem dX5_isAhead_37 : decode cX5_isAhead 37 = .ok (.iload_n 1, 1) := by decide +kernel
theorem dX5_isAhead_38 : decode cX5_isAhead 38 = .ok (.iconst 2, 1) := by decide +kernel
theorem dX5_isAhead_39 : decode cX5_isAhead 39 = .ok (.invokevirtual 98, 3) := by decide +kernel
theorem dX5_isAhead_42 : decode cX5_isAhead 42 = .ok (.aload_n 0, 1) := by decide +kernel
theorem dX5_isAhead_43 : decode cX5_isAhead 43 = .ok (.iload_n 2, 1) := by decide +kernel
theorem dX5_isAhead_44 : decode cX5_isAhead 44 = .ok (.iconst 2, 1) := by decide +kernel
theorem dX5_isAhead_45 : decode cX5_isAhead 45 = .ok (.invokevirtual 98, 3) := by decide +kernel
theorem dX5_isAhead_48 : decode cX5_isAhead 48 = .ok (.if_icmp .ge 7, 3) := by decide +kernel
theorem dX5_isAhead_51 : decode cX5_isAhead 51 = .ok (.iconst 1, 1) := by decide +kernel
theorem dX5_isAhead_52 : decode cX5_isAhead 52 = .ok (.goto 4, 3) := by decide +kernel
theorem dX5_isAhead_55 : decode cX5_isAhead 55 = .ok (.iconst 0, 1) := by decide +kernel
theorem dX5_isAhead_56 : decode cX5_isAhead 56 = .ok (.ireturn, 1) := by decide +kernel
theorem dX5_tellSteps_0 : decode cX5_tellSteps 0 = .ok (.iconst 0, 1) := by decide +kernel
theorem dX5_tellSteps_1 : decode cX5_tellSteps 1 = .ok (.istore_n 2, 1) := by decide +kernel
theorem dX5_tellSteps_2 : decode cX5_tellSteps 2 = .ok (.iload_n 2, 1) := by decide +kernel
theorem dX5_tellSteps_3 : decode cX5_tellSteps 3 = .ok (.aload_n 0, 1) := by decide +kernel
theorem dX5_tellSteps_4 : decode cX5_tellSteps 4 = .ok (.getfield 36, 3) := by decide +kernel
theorem dX5_tellSteps_7 : decode cX5_tellSteps 7 = .ok (.if_icmp .ge 34, 3) := by decide +kernel
theorem dX5_tellSteps_10 : decode cX5_tellSteps 10 = .ok (.aload_n 0, 1) := by decide +kernel
theorem dX5_tellSteps_11 : decode cX5_tellSteps 11 = .ok (.iload_n 2, 1) := by decide +kernel
theorem dX5_tellSteps_12 : decode cX5_tellSteps 12 = .ok (.iconst 5, 1) := by decide +kernel
theorem dX5_tellSteps_13 : decode cX5_tellSteps 13 = .ok (.aload_n 1, 1) := by decide +kernel
theorem dX5_tellSteps_14 : decode cX5_tellSteps 14 = .ok (.aload_n 0, 1) := by decide +kernel
theorem dX5_tellSteps_15 : decode cX5_tellSteps 15 = .ok (.iload_n 2, 1) := by decide +kernel
theorem dX5_tellSteps_16 : decode cX5_tellSteps 16 = .ok (.iconst 2, 1) := by decide +kernel
theorem dX5_tellSteps_17 : decode cX5_tellSteps 17 = .ok (.invokevirtual 98, 3) := by decide +kernel
theorem dX5_tellSteps_20 : decode cX5_tellSteps 20 = .ok (.aload_n 0, 1) := by decide +kernel
theorem dX5_tellSteps_21 : decode cX5_tellSteps 21 = .ok (.iload_n 2, 1) := by decide +kernel
theorem dX5_tellSteps_22 : decode cX5_tellSteps 22 = .ok (.iconst 4, 1) := by decide +kernel
theorem dX5_tellSteps_23 : decode cX5_tellSteps 23 = .ok (.invokevirtual 98, 3) := by decide +kernel
theorem dX5_tellSteps_26 : decode cX5_tellSteps 26 = .ok (.iadd, 1) := by decide +kernel
theorem dX5_tellSteps_27 : decode cX5_tellSteps 27 = .ok (.iconst 2, 1) := by decide +kernel
theorem dX5_tellSteps_28 : decode cX5_tellSteps 28 = .ok (.idiv, 1) := by decide +kernel
theorem dX5_tellSteps_29 : decode cX5_tellSteps 29 = .ok (.invokevirtual 113, 3) := by decide +kernel
theorem dX5_tellSteps_32 : decode cX5_tellSteps 32 = .ok (.invokevirtual 84, 3) := by decide +kernel
theorem dX5_tellSteps_35 : decode cX5_tellSteps 35 = .ok (.iinc 2 1, 3) := by decide +kernel
theorem dX5_tellSteps_38 : decode cX5_tellSteps 38 = .ok (.goto (-36), 3) := by decide +kernel
theorem dX5_tellSteps_41 : decode cX5_tellSteps 41 = .ok (.return_, 1) := by decide +kernel
theorem dX5_forgetIfOthers_0 : decode cX5_forgetIfOthers 0 = .ok (.aload_n 0, 1) := by decide +kernel
theorem dX5_forgetIfOthers_1 : decode cX5_forgetIfOthers 1 = .ok (.getfield 36, 3) := by decide +kernel
theorem dX5_forgetIfOthers_4 : decode cX5_forgetIfOthers 4 = .ok (.aload_n 0, 1) := by decide +kernel
theorem dX5_forgetIfOthers_5 : decode cX5_forgetIfOthers 5 = .ok (.getfield 40, 3) := by decide +kernel
theorem dX5_forgetIfOthers_8 : decode cX5_forgetIfOthers 8 = .ok (.if_icmp .eq 11, 3) := by decide +kernel
theorem dX5_forgetIfOthers_11 : decode cX5_forgetIfOthers 11 = .ok (.aload_n 0, 1) := by decide +kernel
theorem dX5_forgetIfOthers_12 : decode cX5_forgetIfOthers 12 = .ok (.getfield 33, 3) := by decide +kernel
theorem dX5_forgetIfOthers_15 : decode cX5_forgetIfOthers 15 = .ok (.iconst (-1), 1) := by decide +kernel
theorem dX5_forgetIfOthers_16 : decode cX5_forgetIfOthers 16 = .ok (.invokevirtual 116, 3) := by decide +kernel
theorem dX5_forgetIfOthers_19 : decode cX5_forgetIfOthers 19 = .ok (.aload_n 0, 1) := by decide +kernel
theorem dX5_forgetIfOthers_20 : decode cX5_forgetIfOthers 20 = .ok (.aload_n 0, 1) := by decide +kernel
theorem dX5_forgetIfOthers_21 : decode cX5_forgetIfOthers 21 = .ok (.getfield 36, 3) := by decide +kernel
theorem dX5_forgetIfOthers_24 : decode cX5_forgetIfOthers 24 = .ok (.putfield 40, 3) := by decide +kernel
theorem dX5_forgetIfOthers_27 : decode cX5_forgetIfOthers 27 = .ok (.return_, 1) := by decide +kernel
theorem dX5_factAt_0 : decode cX5_factAt 0 = .ok (.aload_n 0, 1) := by decide +kernel
theorem dX5_factAt_1 : decode cX5_factAt 1 = .ok (.getfield 27, 3) := by decide +kernel
theorem dX5_factAt_4 : decode cX5_factAt 4 = .ok (.iload_n 1, 1) := by decide +kernel
theorem dX5_factAt_5 : decode cX5_factAt 5 = .ok (.bipush 6, 2) := by decide +kernel
theorem dX5_factAt_7 : decode cX5_factAt 7 = .ok (.imul, 1) := by decide +kernel
theorem dX5_factAt_8 : decode cX5_factAt 8 = .ok (.iload_n 2, 1) := by decide +kernel
theorem dX5_factAt_9 : decode cX5_factAt 9 = .ok (.iadd, 1) := by decide +kernel
theorem dX5_factAt_10 : decode cX5_factAt 10 = .ok (.invokevirtual 87, 3) := by decide +kernel
theorem dX5_factAt_13 : decode cX5_factAt 13 = .ok (.ireturn, 1) := by decide +kernel
theorem dX5_putFact_0 : decode cX5_putFact 0 = .ok (.aload_n 0, 1) := by decide +kernel
theorem dX5_putFact_1 : decode cX5_putFact 1 = .ok (.getfield 27, 3) := by decide +kernel
theorem dX5_putFact_4 : decode cX5_putFact 4 = .ok (.iload_n 1, 1) := by decide +kernel
theorem dX5_putFact_5 : decode cX5_putFact 5 = .ok (.bipush 6, 2) := by decide +kernel
theorem dX5_putFact_7 : decode cX5_putFact 7 = .ok (.imul, 1) := by decide +kernel
theorem dX5_putFact_8 : decode cX5_putFact 8 = .ok (.iload_n 2, 1) := by decide +kernel
theorem dX5_putFact_9 : decode cX5_putFact 9 = .ok (.iadd, 1) := by decide +kernel
theorem dX5_putFact_10 : decode cX5_putFact 10 = .ok (.iload_n 3, 1) := by decide +kernel
theorem dX5_putFact_11 : decode cX5_putFact 11 = .ok (.invokevirtual 81, 3) := by decide +kernel
theorem dX5_putFact_14 : decode cX5_putFact 14 = .ok (.return_, 1) := by decide +kernel
theorem dX5_size_0 : decode cX5_size 0 = .ok (.aload_n 0, 1) := by decide +kernel
theorem dX5_size_1 : decode cX5_size 1 = .ok (.getfield 36, 3) := by decide +kernel
theorem dX5_size_4 : decode cX5_size 4 = .ok (.ireturn, 1) := by decide +kernel
theorem dX5_fact_0 : decode cX5_fact 0 = .ok (.aload_n 0, 1) := by decide +kernel
theorem dX5_fact_1 : decode cX5_fact 1 = .ok (.getfield 27, 3) := by decide +kernel
theorem dX5_fact_4 : decode cX5_fact 4 = .ok (.aload_n 0, 1) := by decide +kernel
theorem dX5_fact_5 : decode cX5_fact 5 = .ok (.getfield 30, 3) := by decide +kernel
theorem dX5_fact_8 : decode cX5_fact 8 = .ok (.iload_n 1, 1) := by decide +kernel
theorem dX5_fact_9 : decode cX5_fact 9 = .ok (.invokevirtual 87, 3) := by decide +kernel
theorem dX5_fact_12 : decode cX5_fact 12 = .ok (.bipush 6, 2) := by decide +kernel
theorem dX5_fact_14 : decode cX5_fact 14 = .ok (.imul, 1) := by decide +kernel
theorem dX5_fact_15 : decode cX5_fact 15 = .ok (.iload_n 2, 1) := by decide +kernel
theorem dX5_fact_16 : decode cX5_fact 16 = .ok (.iadd, 1) := by decide +kernel
theorem dX5_fact_17 : decode cX5_fact 17 = .ok (.invokevirtual 87, 3) := by decide +kernel
theorem dX5_fact_20 : decode cX5_fact 20 = .ok (.ireturn, 1) := by decide +kernel
theorem dX5_boxHeight_0 : decode cX5_boxHeight 0 = .ok (.aload_n 0, 1) := by decide +kernel
theorem dX5_boxHeight_1 : decode cX5_boxHeight 1 = .ok (.iload_n 1, 1) := by decide +kernel
theorem dX5_boxHeight_2 : decode cX5_boxHeight 2 = .ok (.iconst 4, 1) := by decide +kernel
theorem dX5_boxHeight_3 : decode cX5_boxHeight 3 = .ok (.invokevirtual 119, 3) := by decide +kernel
theorem dX5_boxHeight_6 : decode cX5_boxHeight 6 = .ok (.aload_n 0, 1) := by decide +kernel
theorem dX5_boxHeight_7 : decode cX5_boxHeight 7 = .ok (.iload_n 1, 1) := by decide +kernel
theorem dX5_boxHeight_8 : decode cX5_boxHeight 8 = .ok (.iconst 2, 1) := by decide +kernel
theorem dX5_boxHeight_9 : decode cX5_boxHeight 9 = .ok (.invokevirtual 119, 3) := by decide +kernel
theorem dX5_boxHeight_12 : decode cX5_boxHeight 12 = .ok (.isub, 1) := by decide +kernel
theorem dX5_boxHeight_13 : decode cX5_boxHeight 13 = .ok (.iconst 1, 1) := by decide +kernel
theorem dX5_boxHeight_14 : decode cX5_boxHeight 14 = .ok (.iadd, 1) := by decide +kernel
theorem dX5_boxHeight_15 : decode cX5_boxHeight 15 = .ok (.ireturn, 1) := by decide +kernel
theorem dX5_said_0 : decode cX5_said 0 = .ok (.aload_n 0, 1) := by decide +kernel
theorem dX5_said_1 : decode cX5_said 1 = .ok (.getfield 33, 3) := by decide +kernel
theorem dX5_said_4 : decode cX5_said 4 = .ok (.iload_n 1, 1) := by decide +kernel
theorem dX5_said_5 : decode cX5_said 5 = .ok (.invokevirtual 87, 3) := by decide +kernel
theorem dX5_said_8 : decode cX5_said 8 = .ok (.ireturn, 1) := by decide +kernel
theorem dX5_say_0 : decode cX5_say 0 = .ok (.aload_n 0, 1) := by decide +kernel
theorem dX5_say_1 : decode cX5_say 1 = .ok (.getfield 33, 3) := by decide +kernel
theorem dX5_say_4 : decode cX5_say 4 = .ok (.iload_n 1, 1) := by decide +kernel
theorem dX5_say_5 : decode cX5_say 5 = .ok (.invokevirtual 87, 3) := by decide +kernel
theorem dX5_say_8 : decode cX5_say 8 = .ok (.istore_n 3, 1) := by decide +kernel
theorem dX5_say_9 : decode cX5_say 9 = .ok (.aload_n 0, 1) := by decide +kernel
theorem dX5_say_10 : decode cX5_say 10 = .ok (.getfield 33, 3) := by decide +kernel
theorem dX5_say_13 : decode cX5_say 13 = .ok (.iload_n 1, 1) := by decide +kernel
theorem dX5_say_14 : decode cX5_say 14 = .ok (.iload_n 2, 1) := by decide +kernel
theorem dX5_say_15 : decode cX5_say 15 = .ok (.invokevirtual 81, 3) := by decide +kernel
theorem dX5_say_18 : decode cX5_say 18 = .ok (.iload_n 3, 1) := by decide +kernel
theorem dX5_say_19 : decode cX5_say 19 = .ok (.ireturn, 1) := by decide +kernel
theorem dX5_saidCount_0 : decode cX5_saidCount 0 = .ok (.iconst 0, 1) := by decide +kernel
theorem dX5_saidCount_1 : decode cX5_saidCount 1 = .ok (.istore_n 1, 1) := by decide +kernel
theorem dX5_saidCount_2 : decode cX5_saidCount 2 = .ok (.iconst 0, 1) := by decide +kernel
theorem dX5_saidCount_3 : decode cX5_saidCount 3 = .ok (.istore_n 2, 1) := by decide +kernel
theorem dX5_saidCount_4 : decode cX5_saidCount 4 = .ok (.iload_n 2, 1) := by decide +kernel
theorem dX5_saidCount_5 : decode cX5_saidCount 5 = .ok (.bipush 40, 2) := by decide +kernel
theorem dX5_saidCount_7 : decode cX5_saidCount 7 = .ok (.if_icmp .ge 29, 3) := by decide +kernel
theorem dX5_saidCount_10 : decode cX5_saidCount 10 = .ok (.iload_n 1, 1) := by decide +kernel
theorem dX5_saidCount_11 : decode cX5_saidCount 11 = .ok (.aload_n 0, 1) := by decide +kernel
theorem dX5_saidCount_12 : decode cX5_saidCount 12 = .ok (.getfield 33, 3) := by decide +kernel
theorem dX5_saidCount_15 : decode cX5_saidCount 15 = .ok (.iload_n 2, 1) := by decide +kernel
theorem dX5_saidCount_16 : decode cX5_saidCount 16 = .ok (.invokevirtual 87, 3) := by decide +kernel
theorem dX5_saidCount_19 : decode cX5_saidCount 19 = .ok (.iconst (-1), 1) := by decide +kernel
theorem dX5_saidCount_20 : decode cX5_saidCount 20 = .ok (.if_icmp .ne 7, 3) := by decide +kernel
theorem dX5_saidCount_23 : decode cX5_saidCount 23 = .ok (.iconst 0, 1) := by decide +kernel
theorem dX5_saidCount_24 : decode cX5_saidCount 24 = .ok (.goto 4, 3) := by decide +kernel
theorem dX5_saidCount_27 : decode cX5_saidCount 27 = .ok (.iconst 1, 1) := by decide +kernel
theorem dX5_saidCount_28 : decode cX5_saidCount 28 = .ok (.iadd, 1) := by decide +kernel
theorem dX5_saidCount_29 : decode cX5_saidCount 29 = .ok (.istore_n 1, 1) := by decide +kernel
theorem dX5_saidCount_30 : decode cX5_saidCount 30 = .ok (.iinc 2 1, 3) := by decide +kernel
theorem dX5_saidCount_33 : decode cX5_saidCount 33 = .ok (.goto (-29), 3) := by decide +kernel
theorem dX5_saidCount_36 : decode cX5_saidCount 36 = .ok (.iload_n 1, 1) := by decide +kernel
theorem dX5_saidCount_37 : decode cX5_saidCount 37 = .ok (.ireturn, 1) := by decide +kernel
theorem dX6_init_0 : decode cX6_init 0 = .ok (.aload_n 0, 1) := by decide +kernel
theorem dX6_init_1 : decode cX6_init 1 = .ok (.invokespecial 3, 3) := by decide +kernel
theorem dX6_init_4 : decode cX6_init 4 = .ok (.aload_n 0, 1) := by decide +kernel
theorem dX6_init_5 : decode cX6_init 5 = .ok (.new 9, 3) := by decide +kernel
theorem dX6_init_8 : decode cX6_init 8 = .ok (.dup, 1) := by decide +kernel
theorem dX6_init_9 : decode cX6_init 9 = .ok (.bipush 40, 2) := by decide +kernel
theorem dX6_init_11 : decode cX6_init 11 = .ok (.iconst 0, 1) := by decide +kernel
theorem dX6_init_12 : decode cX6_init 12 = .ok (.invokespecial 11, 3) := by decide +kernel
theorem dX6_init_15 : decode cX6_init 15 = .ok (.putfield 14, 3) := by decide +kernel
theorem dX6_init_18 : decode cX6_init 18 = .ok (.aload_n 0, 1) := by decide +kernel
theorem dX6_init_19 : decode cX6_init 19 = .ok (.new 9, 3) := by decide +kernel
theorem dX6_init_22 : decode cX6_init 22 = .ok (.dup, 1) := by decide +kernel
theorem dX6_init_23 : decode cX6_init 23 = .ok (.bipush 40, 2) := by decide +kernel
theorem dX6_init_25 : decode cX6_init 25 = .ok (.iconst 0, 1) := by decide +kernel
theorem dX6_init_26 : decode cX6_init 26 = .ok (.invokespecial 11, 3) := by decide +kernel
theorem dX6_init_29 : decode cX6_init 29 = .ok (.putfield 20, 3) := by decide +kernel
theorem dX6_init_32 : decode cX6_init 32 = .ok (.return_, 1) := by decide +kernel
theorem dX6_change_0 : decode cX6_change 0 = .ok (.aload_n 0, 1) := by decide +kernel
theorem dX6_change_1 : decode cX6_change 1 = .ok (.getfield 14, 3) := by decide +kernel
theorem dX6_change_4 : decode cX6_change 4 = .ok (.iload_n 1, 1) := by decide +kernel
theorem dX6_change_5 : decode cX6_change 5 = .ok (.invokevirtual 23, 3) := by decide +kernel
theorem dX6_change_8 : decode cX6_change 8 = .ok (.istore_n 3, 1) := by decide +kernel
theorem dX6_change_9 : decode cX6_change 9 = .ok (.aload_n 0, 1) := by decide +kernel
theorem dX6_change_10 : decode cX6_change 10 = .ok (.getfield 14, 3) := by decide +kernel
theorem dX6_change_13 : decode cX6_change 13 = .ok (.iload_n 1, 1) := by decide +kernel
theorem dX6_change_14 : decode cX6_change 14 = .ok (.iload_n 2, 1) := by decide +kernel
theorem dX6_change_15 : decode cX6_change 15 = .ok (.invokevirtual 27, 3) := by decide +kernel
theorem dX6_change_18 : decode cX6_change 18 = .ok (.iload_n 3, 1) := by decide +kernel
theorem dX6_change_19 : decode cX6_change 19 = .ok (.ireturn, 1) := by decide +kernel
theorem dX6_measurePlayed_0 : decode cX6_measurePlayed 0 = .ok (.aload_n 0, 1) := by decide +kernel
theorem dX6_measurePlayed_1 : decode cX6_measurePlayed 1 = .ok (.getfield 20, 3) := by decide +kernel
theorem dX6_measurePlayed_4 : decode cX6_measurePlayed 4 = .ok (.iconst 0, 1) := by decide +kernel
theorem dX6_measurePlayed_5 : decode cX6_measurePlayed 5 = .ok (.invokevirtual 30, 3) := by decide +kernel
theorem dX6_measurePlayed_8 : decode cX6_measurePlayed 8 = .ok (.iconst 0, 1) := by decide +kernel
theorem dX6_measurePlayed_9 : decode cX6_measurePlayed 9 = .ok (.istore_n 3, 1) := by decide +kernel
theorem dX6_measurePlayed_10 : decode cX6_measurePlayed 10 = .ok (.iconst 0, 1) := by decide +kernel
theorem dX6_measurePlayed_11 : decode cX6_measurePlayed 11 = .ok (.istore 4, 2) := by decide +kernel
theorem dX6_measurePlayed_13 : decode cX6_measurePlayed 13 = .ok (.iconst 0, 1) := by decide +kernel
theorem dX6_measurePlayed_14 : decode cX6_measurePlayed 14 = .ok (.istore 5, 2) := by decide +kernel
theorem dX6_measurePlayed_16 : decode cX6_measurePlayed 16 = .ok (.iload 5, 2) := by decide +kernel
theorem dX6_measurePlayed_18 : decode cX6_measurePlayed 18 = .ok (.sipush 1640, 3) := by decide +kernel
theorem dX6_measurePlayed_21 : decode cX6_measurePlayed 21 = .ok (.if_icmp .ge 45, 3) := by decide +kernel
theorem dX6_measurePlayed_24 : decode cX6_measurePlayed 24 = .ok (.iload_n 3, 1) := by decide +kernel
theorem dX6_measurePlayed_25 : decode cX6_measurePlayed 25 = .ok (.iload_n 2, 1) := by decide +kernel
theorem dX6_measurePlayed_26 : decode cX6_measurePlayed 26 = .ok (.if_icmp .ge 40, 3) := by decide +kernel
theorem dX6_measurePlayed_29 : decode cX6_measurePlayed 29 = .ok (.aload_n 0, 1) := by decide +kernel
theorem dX6_measurePlayed_30 : decode cX6_measurePlayed 30 = .ok (.iload_n 3, 1) := by decide +kernel
theorem dX6_measurePlayed_31 : decode cX6_measurePlayed 31 = .ok (.invokevirtual 34, 3) := by decide +kernel
theorem dX6_measurePlayed_34 : decode cX6_measurePlayed 34 = .ok (.ifCond .eq 9, 3) := by decide +kernel
theorem dX6_measurePlayed_37 : decode cX6_measurePlayed 37 = .ok (.iinc 3 1, 3) := by decide +kernel
theorem dX6_measurePlayed_40 : decode cX6_measurePlayed 40 = .ok (.goto 20, 3) := by decide +kernel
theorem dX6_measurePlayed_43 : decode cX6_measurePlayed 43 = .ok (.iload 4, 2) := by decide +kernel
theorem dX6_measurePlayed_45 : decode cX6_measurePlayed 45 = .ok (.iload_n 1, 1) := by decide +kernel
theorem dX6_measurePlayed_46 : decode cX6_measurePlayed 46 = .ok (.if_icmp .ne 5, 3) := by decide +kernel
theorem dX6_measurePlayed_49 : decode cX6_measurePlayed 49 = .ok (.iload_n 3, 1) := by decide +kernel
theorem dX6_measurePlayed_50 : decode cX6_measurePlayed 50 = .ok (.ireturn, 1) := by decide +kernel
theorem dX6_measurePlayed_51 : decode cX6_measurePlayed 51 = .ok (.iinc 4 1, 3) := by decide +kernel
theorem dX6_measurePlayed_54 : decode cX6_measurePlayed 54 = .ok (.aload_n 0, 1) := by decide +kernel
theorem dX6_measurePlayed_55 : decode cX6_measurePlayed 55 = .ok (.iload_n 3, 1) := by decide +kernel
theorem dX6_measurePlayed_56 : decode cX6_measurePlayed 56 = .ok (.invokevirtual 38, 3) := by decide +kernel
theorem dX6_measurePlayed_59 : decode cX6_measurePlayed 59 = .ok (.istore_n 3, 1) := by decide +kernel
theorem dX6_measurePlayed_60 : decode cX6_measurePlayed 60 = .ok (.iinc 5 1, 3) := by decide +kernel
theorem dX6_measurePlayed_63 : decode cX6_measurePlayed 63 = .ok (.goto (-47), 3) := by decide +kernel
theorem dX6_measurePlayed_66 : decode cX6_measurePlayed 66 = .ok (.iconst (-1), 1) := by decide +kernel
theorem dX6_measurePlayed_67 : decode cX6_measurePlayed 67 = .ok (.ireturn, 1) := by decide +kernel
theorem dX6_isLeftOut_0 : decode cX6_isLeftOut 0 = .ok (.aload_n 0, 1) := by decide +kernel
theorem dX6_isLeftOut_1 : decode cX6_isLeftOut 1 = .ok (.getfield 14, 3) := by decide +kernel
theorem dX6_isLeftOut_4 : decode cX6_isLeftOut 4 = .ok (.iload_n 1, 1) := by decide +kernel
theorem dX6_isLeftOut_5 : decode cX6_isLeftOut 5 = .ok (.invokevirtual 23, 3) := by decide +kernel
theorem dX6_isLeftOut_8 : decode cX6_isLeftOut 8 = .ok (.iconst 3, 1) := by decide +kernel
theorem dX6_isLeftOut_9 : decode cX6_isLeftOut 9 = .ok (.if_icmp .ne 19, 3) := by decide +kernel
theorem dX6_isLeftOut_12 : decode cX6_isLeftOut 12 = .ok (.aload_n 0, 1) := by decide +kernel
theorem dX6_isLeftOut_13 : decode cX6_isLeftOut 13 = .ok (.getfield 20, 3) := by decide +kernel
theorem dX6_isLeftOut_16 : decode cX6_isLeftOut 16 = .ok (.iload_n 1, 1) := by decide +kernel
theorem dX6_isLeftOut_17 : decode cX6_isLeftOut 17 = .ok (.invokevirtual 23, 3) := by decide +kernel
theorem dX6_isLeftOut_20 : decode cX6_isLeftOut 20 = .ok (.iconst 1, 1) := by decide +kernel
theorem dX6_isLeftOut_21 : decode cX6_isLeftOut 21 = .ok (.if_icmp .ne 7, 3) := by decide +kernel
theorem dX6_isLeftOut_24 : decode cX6_isLeftOut 24 = .ok (.iconst 1, 1) := by decide +kernel
theorem dX6_isLeftOut_25 : decode cX6_isLeftOut 25 = .ok (.goto 4, 3) := by decide +kernel
theorem dX6_isLeftOut_28 : decode cX6_isLeftOut 28 = .ok (.iconst 0, 1) := by decide +kernel
theorem dX6_isLeftOut_29 : decode cX6_isLeftOut 29 = .ok (.ireturn, 1) := by decide +kernel
theorem dX6_goOn_0 : decode cX6_goOn 0 = .ok (.aload_n 0, 1) := by decide +kernel
theorem dX6_goOn_1 : decode cX6_goOn 1 = .ok (.getfield 14, 3) := by decide +kernel
theorem dX6_goOn_4 : decode cX6_goOn 4 = .ok (.iload_n 1, 1) := by decide +kernel
theorem dX6_goOn_5 : decode cX6_goOn 5 = .ok (.invokevirtual 23, 3) := by decide +kernel
theorem dX6_goOn_8 : decode cX6_goOn 8 = .ok (.istore_n 2, 1) := by decide +kernel
theorem dX6_goOn_9 : decode cX6_goOn 9 = .ok (.iload_n 2, 1) := by decide +kernel
theorem dX6_goOn_10 : decode cX6_goOn 10 = .ok (.iconst 2, 1) := by decide +kernel
theorem dX6_goOn_11 : decode cX6_goOn 11 = .ok (.if_icmp .lt 15, 3) := by decide +kernel
theorem dX6_goOn_14 : decode cX6_goOn 14 = .ok (.aload_n 0, 1) := by decide +kernel
theorem dX6_goOn_15 : decode cX6_goOn 15 = .ok (.getfield 20, 3) := by decide +kernel
theorem dX6_goOn_18 : decode cX6_goOn 18 = .ok (.iload_n 1, 1) := by decide +kernel
theorem dX6_goOn_19 : decode cX6_goOn 19 = .ok (.invokevirtual 23, 3) := by decide +kernel
theorem dX6_goOn_22 : decode cX6_goOn 22 = .ok (.iconst 1, 1) := by decide +kernel
theorem dX6_goOn_23 : decode cX6_goOn 23 = .ok (.if_icmp .ne 7, 3) := by decide +kernel
theorem dX6_goOn_26 : decode cX6_goOn 26 = .ok (.iload_n 1, 1) := by decide +kernel
theorem dX6_goOn_27 : decode cX6_goOn 27 = .ok (.iconst 1, 1) := by decide +kernel
theorem dX6_goOn_28 : decode cX6_goOn 28 = .ok (.iadd, 1) := by decide +kernel
theorem dX6_goOn_29 : decode cX6_goOn 29 = .ok (.ireturn, 1) := by decide +kernel
theorem dX6_goOn_30 : decode cX6_goOn 30 = .ok (.aload_n 0, 1) := by decide +kernel
theorem dX6_goOn_31 : decode cX6_goOn 31 = .ok (.getfield 20, 3) := by decide +kernel
theorem dX6_goOn_34 : decode cX6_goOn 34 = .ok (.iload_n 1, 1) := by decide +kernel
theorem dX6_goOn_35 : decode cX6_goOn 35 = .ok (.iconst 1, 1) := by decide +kernel
theorem dX6_goOn_36 : decode cX6_goOn 36 = .ok (.invokevirtual 27, 3) := by decide +kernel
theorem dX6_goOn_39 : decode cX6_goOn 39 = .ok (.iload_n 2, 1) := by decide +kernel
theorem dX6_goOn_40 : decode cX6_goOn 40 = .ok (.iconst 4, 1) := by decide +kernel
theorem dX6_goOn_41 : decode cX6_goOn 41 = .ok (.if_icmp .ne 7, 3) := by decide +kernel
theorem dX6_goOn_44 : decode cX6_goOn 44 = .ok (.iconst 0, 1) := by decide +kernel
theorem dX6_goOn_45 : decode cX6_goOn 45 = .ok (.goto 8, 3) := by decide +kernel
theorem dX6_goOn_48 : decode cX6_goOn 48 = .ok (.aload_n 0, 1) := by decide +kernel
theorem dX6_goOn_49 : decode cX6_goOn 49 = .ok (.iload_n 1, 1) := by decide +kernel
theorem dX6_goOn_50 : decode cX6_goOn 50 = .ok (.invokevirtual 41, 3) := by decide +kernel
theorem dX6_goOn_53 : decode cX6_goOn 53 = .ok (.ireturn, 1) := by decide +kernel
theorem dX6_latestBegin_0 : decode cX6_latestBegin 0 = .ok (.iload_n 1, 1) := by decide +kernel
theorem dX6_latestBegin_1 : decode cX6_latestBegin 1 = .ok (.istore_n 2, 1) := by decide +kernel
theorem dX6_latestBegin_2 : decode cX6_latestBegin 2 = .ok (.iload_n 2, 1) := by decide +kernel
theorem dX6_latestBegin_3 : decode cX6_latestBegin 3 = .ok (.ifCond .le 23, 3) := by decide +kernel
theorem dX6_latestBegin_6 : decode cX6_latestBegin 6 = .ok (.aload_n 0, 1) := by decide +kernel
theorem dX6_latestBegin_7 : decode cX6_latestBegin 7 = .ok (.getfield 14, 3) := by decide +kernel
theorem dX6_latestBegin_10 : decode cX6_latestBegin 10 = .ok (.iload_n 2, 1) := by decide +kernel
theorem dX6_latestBegin_11 : decode cX6_latestBegin 11 = .ok (.invokevirtual 23, 3) := by decide +kernel
theorem dX6_latestBegin_14 : decode cX6_latestBegin 14 = .ok (.iconst 1, 1) := by decide +kernel
theorem dX6_latestBegin_15 : decode cX6_latestBegin 15 = .ok (.if_icmp .ne 5, 3) := by decide +kernel
theorem dX6_latestBegin_18 : decode cX6_latestBegin 18 = .ok (.iload_n 2, 1) := by decide +kernel
theorem dX6_latestBegin_19 : decode cX6_latestBegin 19 = .ok (.ireturn, 1) := by decide +kernel
theorem dX6_latestBegin_20 : decode cX6_latestBegin 20 = .ok (.iinc 2 (-1), 3) := by decide +kernel
theorem dX6_latestBegin_23 : decode cX6_latestBegin 23 = .ok (.goto (-21), 3) := by decide +kernel
theorem dX6_latestBegin_26 : decode cX6_latestBegin 26 = .ok (.iconst 0, 1) := by decide +kernel
theorem dX6_latestBegin_27 : decode cX6_latestBegin 27 = .ok (.ireturn, 1) := by decide +kernel
theorem dX7_init_0 : decode cX7_init 0 = .ok (.aload_n 0, 1) := by decide +kernel
theorem dX7_init_1 : decode cX7_init 1 = .ok (.invokespecial 3, 3) := by decide +kernel
theorem dX7_init_4 : decode cX7_init 4 = .ok (.aload_n 0, 1) := by decide +kernel
theorem dX7_init_5 : decode cX7_init 5 = .ok (.new 9, 3) := by decide +kernel
theorem dX7_init_8 : decode cX7_init 8 = .ok (.dup, 1) := by decide +kernel
theorem dX7_init_9 : decode cX7_init 9 = .ok (.invokespecial 11, 3) := by decide +kernel
theorem dX7_init_12 : decode cX7_init 12 = .ok (.putfield 12, 3) := by decide +kernel
theorem dX7_init_15 : decode cX7_init 15 = .ok (.aload_n 0, 1) := by decide +kernel
theorem dX7_init_16 : decode cX7_init 16 = .ok (.new 16, 3) := by decide +kernel
theorem dX7_init_19 : decode cX7_init 19 = .ok (.dup, 1) := by decide +kernel
theorem dX7_init_20 : decode cX7_init 20 = .ok (.invokespecial 18, 3) := by decide +kernel
theorem dX7_init_23 : decode cX7_init 23 = .ok (.putfield 19, 3) := by decide +kernel
theorem dX7_init_26 : decode cX7_init 26 = .ok (.aload_n 0, 1) := by decide +kernel
theorem dX7_init_27 : decode cX7_init 27 = .ok (.new 23, 3) := by decide +kernel
theorem dX7_init_30 : decode cX7_init 30 = .ok (.dup, 1) := by decide +kernel
theorem dX7_init_31 : decode cX7_init 31 = .ok (.invokespecial 25, 3) := by decide +kernel
theorem dX7_init_34 : decode cX7_init 34 = .ok (.putfield 26, 3) := by decide +kernel
theorem dX7_init_37 : decode cX7_init 37 = .ok (.aload_n 0, 1) := by decide +kernel
theorem dX7_init_38 : decode cX7_init 38 = .ok (.new 30, 3) := by decide +kernel
theorem dX7_init_41 : decode cX7_init 41 = .ok (.dup, 1) := by decide +kernel
theorem dX7_init_42 : decode cX7_init 42 = .ok (.invokespecial 32, 3) := by decide +kernel
theorem dX7_init_45 : decode cX7_init 45 = .ok (.putfield 33, 3) := by decide +kernel
theorem dX7_init_48 : decode cX7_init 48 = .ok (.aload_n 0, 1) := by decide +kernel
theorem dX7_init_49 : decode cX7_init 49 = .ok (.new 37, 3) := by decide +kernel
theorem dX7_init_52 : decode cX7_init 52 = .ok (.dup, 1) := by decide +kernel
theorem dX7_init_53 : decode cX7_init 53 = .ok (.invokespecial 39, 3) := by decide +kernel
theorem dX7_init_56 : decode cX7_init 56 = .ok (.putfield 40, 3) := by decide +kernel
theorem dX7_init_59 : decode cX7_init 59 = .ok (.aload_n 0, 1) := by decide +kernel
theorem dX7_init_60 : decode cX7_init 60 = .ok (.new 44, 3) := by decide +kernel
theorem dX7_init_63 : decode cX7_init 63 = .ok (.dup, 1) := by decide +kernel
theorem dX7_init_64 : decode cX7_init 64 = .ok (.invokespecial 46, 3) := by decide +kernel
theorem dX7_init_67 : decode cX7_init 67 = .ok (.putfield 47, 3) := by decide +kernel
theorem dX7_init_70 : decode cX7_init 70 = .ok (.aload_n 0, 1) := by decide +kernel
theorem dX7_init_71 : decode cX7_init 71 = .ok (.bipush 40, 2) := by decide +kernel
theorem dX7_init_73 : decode cX7_init 73 = .ok (.putfield 51, 3) := by decide +kernel
theorem dX7_init_76 : decode cX7_init 76 = .ok (.aload_n 0, 1) := by decide +kernel
theorem dX7_init_77 : decode cX7_init 77 = .ok (.iconst 0, 1) := by decide +kernel
theorem dX7_init_78 : decode cX7_init 78 = .ok (.putfield 55, 3) := by decide +kernel
theorem dX7_init_81 : decode cX7_init 81 = .ok (.aload_n 0, 1) := by decide +kernel
theorem dX7_init_82 : decode cX7_init 82 = .ok (.iconst 1, 1) := by decide +kernel
theorem dX7_init_83 : decode cX7_init 83 = .ok (.putfield 59, 3) := by decide +kernel
theorem dX7_init_86 : decode cX7_init 86 = .ok (.return_, 1) := by decide +kernel
theorem dX7_row_0 : decode cX7_row 0 = .ok (.iload_n 1, 1) := by decide +kernel
theorem dX7_row_1 : decode cX7_row 1 = .ok (.iconst 0, 1) := by decide +kernel
theorem dX7_row_2 : decode cX7_row 2 = .ok (.bipush 31, 2) := by decide +kernel
theorem dX7_row_4 : decode cX7_row 4 = .ok (.invokestatic 62, 3) := by decide +kernel
theorem dX7_row_7 : decode cX7_row 7 = .ok (.ifCond .eq 17, 3) := by decide +kernel
theorem dX7_row_10 : decode cX7_row 10 = .ok (.lload_n 2, 1) := by decide +kernel
theorem dX7_row_11 : decode cX7_row 11 = .ok (.lconst 0, 1) := by decide +kernel
theorem dX7_row_12 : decode cX7_row 12 = .ok (.lcmp, 1) := by decide +kernel
theorem dX7_row_13 : decode cX7_row 13 = .ok (.ifCond .lt 11, 3) := by decide +kernel
theorem dX7_row_16 : decode cX7_row 16 = .ok (.lload_n 2, 1) := by decide +kernel
theorem dX7_row_17 : decode cX7_row 17 = .ok (.ldc2_w 66, 3) := by decide +kernel
theorem dX7_row_20 : decode cX7_row 20 = .ok (.lcmp, 1) := by decide +kernel
theorem dX7_row_21 : decode cX7_row 21 = .ok (.ifCond .le 6, 3) := by decide +kernel
theorem dX7_row_24 : decode cX7_row 24 = .ok (.bipush (-2), 2) := by decide +kernel
theorem dX7_row_26 : decode cX7_row 26 = .ok (.ireturn, 1) := by decide +kernel
theorem dX7_row_27 : decode cX7_row 27 = .ok (.aload_n 0, 1) := by decide +kernel
theorem dX7_row_28 : decode cX7_row 28 = .ok (.getfield 12, 3) := by decide +kernel
theorem dX7_row_31 : decode cX7_row 31 = .ok (.iload_n 1, 1) := by decide +kernel
theorem dX7_row_32 : decode cX7_row 32 = .ok (.lload_n 2, 1) := by decide +kernel
theorem dX7_row_33 : decode cX7_row 33 = .ok (.invokevirtual 68, 3) := by decide +kernel
theorem dX7_row_36 : decode cX7_row 36 = .ok (.aload_n 0, 1) := by decide +kernel
theorem dX7_row_37 : decode cX7_row 37 = .ok (.iconst 0, 1) := by decide +kernel
theorem dX7_row_38 : decode cX7_row 38 = .ok (.putfield 55, 3) := by decide +kernel
theorem dX7_row_41 : decode cX7_row 41 = .ok (.lload_n 2, 1) := by decide +kernel
theorem dX7_row_42 : decode cX7_row 42 = .ok (.invokestatic 72, 3) := by decide +kernel
theorem dX7_row_45 : decode cX7_row 45 = .ok (.ireturn, 1) := by decide +kernel
theorem dX7_ink_0 : decode cX7_ink 0 = .ok (.iload_n 3, 1) := by decide +kernel
theorem dX7_ink_1 : decode cX7_ink 1 = .ok (.iconst 1, 1) := by decide +kernel
theorem dX7_ink_2 : decode cX7_ink 2 = .ok (.bipush 60, 2) := by decide +kernel
theorem dX7_ink_4 : decode cX7_ink 4 = .ok (.invokestatic 62, 3) := by decide +kernel
theorem dX7_ink_7 : decode cX7_ink 7 = .ok (.ifCond .eq 14, 3) := by decide +kernel
theorem dX7_ink_10 : decode cX7_ink 10 = .ok (.iload 4, 2) := by decide +kernel
theorem dX7_ink_12 : decode cX7_ink 12 = .ok (.iconst 1, 1) := by decide +kernel
theorem dX7_ink_13 : decode cX7_ink 13 = .ok (.bipush 32, 2) := by decide +kernel
theorem dX7_ink_15 : decode cX7_ink 15 = .ok (.invokestatic 62, 3) := by decide +kernel
theorem dX7_ink_18 : decode cX7_ink 18 = .ok (.ifCond .ne 6, 3) := by decide +kernel
theorem dX7_ink_21 : decode cX7_ink 21 = .ok (.bipush (-2), 2) := by decide +kernel
theorem dX7_ink_23 : decode cX7_ink 23 = .ok (.ireturn, 1) := by decide +kernel
theorem dX7_ink_24 : decode cX7_ink 24 = .ok (.iload_n 1, 1) := by decide +kernel
theorem dX7_ink_25 : decode cX7_ink 25 = .ok (.iconst 0, 1) := by decide +kernel
theorem dX7_ink_26 : decode cX7_ink 26 = .ok (.bipush 60, 2) := by decide +kernel
theorem dX7_ink_28 : decode cX7_ink 28 = .ok (.iload_n 3, 1) := by decide +kernel
theorem dX7_ink_29 : decode cX7_ink 29 = .ok (.isub, 1) := by decide +kernel
theorem dX7_ink_30 : decode cX7_ink 30 = .ok (.invokestatic 62, 3) := by decide +kernel
theorem dX7_ink_33 : decode cX7_ink 33 = .ok (.ifCond .eq 16, 3) := by decide +kernel
theorem dX7_ink_36 : decode cX7_ink 36 = .ok (.iload_n 2, 1) := by decide +kernel
theorem dX7_ink_37 : decode cX7_ink 37 = .ok (.iconst 0, 1) := by decide +kernel
theorem dX7_ink_38 : decode cX7_ink 38 = .ok (.bipush 32, 2) := by decide +kernel
theorem dX7_ink_40 : decode cX7_ink 40 = .ok (.iload 4, 2) := by decide +kernel
theorem dX7_ink_42 : decode cX7_ink 42 = .ok (.isub, 1) := by decide +kernel
theorem dX7_ink_43 : decode cX7_ink 43 = .ok (.invokestatic 62, 3) := by decide +kernel
theorem dX7_ink_46 : decode cX7_ink 46 = .ok (.ifCond .ne 6, 3) := by decide +kernel
theorem dX7_ink_49 : decode cX7_ink 49 = .ok (.bipush (-2), 2) := by decide +kernel
theorem dX7_ink_51 : decode cX7_ink 51 = .ok (.ireturn, 1) := by decide +kernel
theorem dX7_ink_52 : decode cX7_ink 52 = .ok (.aload_n 0, 1) := by decide +kernel
theorem dX7_ink_53 : decode cX7_ink 53 = .ok (.iconst 0, 1) := by decide +kernel
theorem dX7_ink_54 : decode cX7_ink 54 = .ok (.putfield 55, 3) := by decide +kernel
theorem dX7_ink_57 : decode cX7_ink 57 = .ok (.aload_n 0, 1) := by decide +kernel
theorem dX7_ink_58 : decode cX7_ink 58 = .ok (.getfield 12, 3) := by decide +kernel
theorem dX7_ink_61 : decode cX7_ink 61 = .ok (.iload_n 2, 1) := by decide +kernel
theorem dX7_ink_62 : decode cX7_ink 62 = .ok (.iload 4, 2) := by decide +kernel
theorem dX7_ink_64 : decode cX7_ink 64 = .ok (.ldc2_w 66, 3) := by decide +kernel
theorem dX7_ink_67 : decode cX7_ink 67 = .ok (.bipush 60, 2) := by decide +kernel
theorem dX7_ink_69 : decode cX7_ink 69 = .ok (.iload_n 3, 1) := by decide +kernel
theorem dX7_ink_70 : decode cX7_ink 70 = .ok (.isub, 1) := by decide +kernel
theorem dX7_ink_71 : decode cX7_ink 71 = .ok (.lushr, 1) := by decide +kernel
theorem dX7_ink_72 : decode cX7_ink 72 = .ok (.iload_n 1, 1) := by decide +kernel
theorem dX7_ink_73 : decode cX7_ink 73 = .ok (.lshl, 1) := by decide +kernel
theorem dX7_ink_74 : decode cX7_ink 74 = .ok (.iload 5, 2) := by decide +kernel
theorem dX7_ink_76 : decode cX7_ink 76 = .ok (.invokevirtual 78, 3) := by decide +kernel
theorem dX7_ink_79 : decode cX7_ink 79 = .ok (.ireturn, 1) := by decide +kernel
theorem dX7_run_0 : decode cX7_run 0 = .ok (.iload_n 1, 1) := by decide +kernel
theorem dX7_run_1 : decode cX7_run 1 = .ok (.bipush 10, 2) := by decide +kernel
theorem dX7_run_3 : decode cX7_run 3 = .ok (.bipush 60, 2) := by decide +kernel
theorem dX7_run_5 : decode cX7_run 5 = .ok (.invokestatic 62, 3) := by decide +kernel
theorem dX7_run_8 : decode cX7_run 8 = .ok (.ifCond .ne 6, 3) := by decide +kernel
theorem dX7_run_11 : decode cX7_run 11 = .ok (.bipush (-2), 2) := by decide +kernel
theorem dX7_run_13 : decode cX7_run 13 = .ok (.ireturn, 1) := by decide +kernel
theorem dX7_run_14 : decode cX7_run 14 = .ok (.aload_n 0, 1) := by decide +kernel
theorem dX7_run_15 : decode cX7_run 15 = .ok (.getfield 51, 3) := by decide +kernel
theorem dX7_run_18 : decode cX7_run 18 = .ok (.istore_n 2, 1) := by decide +kernel
theorem dX7_run_19 : decode cX7_run 19 = .ok (.aload_n 0, 1) := by decide +kernel
theorem dX7_run_20 : decode cX7_run 20 = .ok (.iload_n 1, 1) := by decide +kernel
theorem dX7_run_21 : decode cX7_run 21 = .ok (.putfield 51, 3) := by decide +kernel
theorem dX7_run_24 : decode cX7_run 24 = .ok (.aload_n 0, 1) := by decide +kernel
theorem dX7_run_25 : decode cX7_run 25 = .ok (.iconst 0, 1) := by decide +kernel
theorem dX7_run_26 : decode cX7_run 26 = .ok (.putfield 55, 3) := by decide +kernel
theorem dX7_run_29 : decode cX7_run 29 = .ok (.iload_n 2, 1) := by decide +kernel
theorem dX7_run_30 : decode cX7_run 30 = .ok (.ireturn, 1) := by decide +kernel
theorem dX7_dot_0 : decode cX7_dot 0 = .ok (.iload_n 1, 1) := by decide +kernel
theorem dX7_dot_1 : decode cX7_dot 1 = .ok (.iconst 0, 1) := by decide +kernel
theorem dX7_dot_2 : decode cX7_dot 2 = .ok (.bipush 59, 2) := by decide +kernel
theorem dX7_dot_4 : decode cX7_dot 4 = .ok (.invokestatic 62, 3) := by decide +kernel
theorem dX7_dot_7 : decode cX7_dot 7 = .ok (.ifCond .eq 13, 3) := by decide +kernel
theorem dX7_dot_10 : decode cX7_dot 10 = .ok (.iload_n 2, 1) := by decide +kernel
theorem dX7_dot_11 : decode cX7_dot 11 = .ok (.iconst 0, 1) := by decide +kernel
theorem dX7_dot_12 : decode cX7_dot 12 = .ok (.bipush 31, 2) := by decide +kernel
theorem dX7_dot_14 : decode cX7_dot 14 = .ok (.invokestatic 62, 3) := by decide +kernel
theorem dX7_dot_17 : decode cX7_dot 17 = .ok (.ifCond .ne 6, 3) := by decide +kernel
theorem dX7_dot_20 : decode cX7_dot 20 = .ok (.bipush (-2), 2) := by decide +kernel
theorem dX7_dot_22 : decode cX7_dot 22 = .ok (.ireturn, 1) := by decide +kernel
theorem dX7_dot_23 : decode cX7_dot 23 = .ok (.aload_n 0, 1) := by decide +kernel
theorem dX7_dot_24 : decode cX7_dot 24 = .ok (.getfield 12, 3) := by decide +kernel
theorem dX7_dot_27 : decode cX7_dot 27 = .ok (.iload_n 1, 1) := by decide +kernel
theorem dX7_dot_28 : decode cX7_dot 28 = .ok (.iload_n 2, 1) := by decide +kernel
theorem dX7_dot_29 : decode cX7_dot 29 = .ok (.invokevirtual 82, 3) := by decide +kernel
theorem dX7_dot_32 : decode cX7_dot 32 = .ok (.ifCond .eq 7, 3) := by decide +kernel
theorem dX7_dot_35 : decode cX7_dot 35 = .ok (.iconst 1, 1) := by decide +kernel
theorem dX7_dot_36 : decode cX7_dot 36 = .ok (.goto 4, 3) := by decide +kernel
theorem dX7_dot_39 : decode cX7_dot 39 = .ok (.iconst 0, 1) := by decide +kernel
theorem dX7_dot_40 : decode cX7_dot 40 = .ok (.ireturn, 1) := by decide +kernel
theorem dX7_lines_0 : decode cX7_lines 0 = .ok (.aload_n 0, 1) := by decide +kernel
theorem dX7_lines_1 : decode cX7_lines 1 = .ok (.getfield 19, 3) := by decide +kernel
theorem dX7_lines_4 : decode cX7_lines 4 = .ok (.aload_n 0, 1) := by decide +kernel
theorem dX7_lines_5 : decode cX7_lines 5 = .ok (.getfield 12, 3) := by decide +kernel
theorem dX7_lines_8 : decode cX7_lines 8 = .ok (.aload_n 0, 1) := by decide +kernel
theorem dX7_lines_9 : decode cX7_lines 9 = .ok (.getfield 51, 3) := by decide +kernel
theorem dX7_lines_12 : decode cX7_lines 12 = .ok (.invokevirtual 86, 3) := by decide +kernel
theorem dX7_lines_15 : decode cX7_lines 15 = .ok (.aload_n 0, 1) := by decide +kernel
theorem dX7_lines_16 : decode cX7_lines 16 = .ok (.getfield 19, 3) := by decide +kernel
theorem dX7_lines_19 : decode cX7_lines 19 = .ok (.invokevirtual 90, 3) := by decide +kernel
theorem dX7_lines_22 : decode cX7_lines 22 = .ok (.ireturn, 1) := by decide +kernel
theorem dX7_staff_0 : decode cX7_staff 0 = .ok (.iload_n 1, 1) := by decide +kernel
theorem dX7_staff_1 : decode cX7_staff 1 = .ok (.iconst 0, 1) := by decide +kernel
theorem dX7_staff_2 : decode cX7_staff 2 = .ok (.iconst 4, 1) := by decide +kernel
theorem dX7_staff_3 : decode cX7_staff 3 = .ok (.invokestatic 62, 3) := by decide +kernel
theorem dX7_staff_6 : decode cX7_staff 6 = .ok (.ifCond .eq 12, 3) := by decide +kernel
theorem dX7_staff_9 : decode cX7_staff 9 = .ok (.iload_n 2, 1) := by decide +kernel
theorem dX7_staff_10 : decode cX7_staff 10 = .ok (.iconst 0, 1) := by decide +kernel
theorem dX7_staff_11 : decode cX7_staff 11 = .ok (.iconst 1, 1) := by decide +kernel
theorem dX7_staff_12 : decode cX7_staff 12 = .ok (.invokestatic 62, 3) := by decide +kernel
theorem dX7_staff_15 : decode cX7_staff 15 = .ok (.ifCond .ne 6, 3) := by decide +kernel
theorem dX7_staff_18 : decode cX7_staff 18 = .ok (.bipush (-2), 2) := by decide +kernel
theorem dX7_staff_20 : decode cX7_staff 20 = .ok (.ireturn, 1) := by decide +kernel
theorem dX7_staff_21 : decode cX7_staff 21 = .ok (.aload_n 0, 1) := by decide +kernel
theorem dX7_staff_22 : decode cX7_staff 22 = .ok (.getfield 19, 3) := by decide +kernel
theorem dX7_staff_25 : decode cX7_staff 25 = .ok (.aload_n 0, 1) := by decide +kernel
theorem dX7_staff_26 : decode cX7_staff 26 = .ok (.getfield 12, 3) := by decide +kernel
theorem dX7_staff_29 : decode cX7_staff 29 = .ok (.aload_n 0, 1) := by decide +kernel
theorem dX7_staff_30 : decode cX7_staff 30 = .ok (.getfield 51, 3) := by decide +kernel
theorem dX7_staff_33 : decode cX7_staff 33 = .ok (.invokevirtual 86, 3) := by decide +kernel
theorem dX7_staff_36 : decode cX7_staff 36 = .ok (.aload_n 0, 1) := by decide +kernel
theorem dX7_staff_37 : decode cX7_staff 37 = .ok (.getfield 19, 3) := by decide +kernel
theorem dX7_staff_40 : decode cX7_staff 40 = .ok (.invokevirtual 94, 3) := by decide +kernel
theorem dX7_staff_43 : decode cX7_staff 43 = .ok (.ifCond .ne 6, 3) := by decide +kernel
theorem dX7_staff_46 : decode cX7_staff 46 = .ok (.bipush (-3), 2) := by decide +kernel
theorem dX7_staff_48 : decode cX7_staff 48 = .ok (.ireturn, 1) := by decide +kernel
theorem dX7_staff_49 : decode cX7_staff 49 = .ok (.iload_n 2, 1) := by decide +kernel
theorem dX7_staff_50 : decode cX7_staff 50 = .ok (.ifCond .ne 14, 3) := by decide +kernel
theorem dX7_staff_53 : decode cX7_staff 53 = .ok (.aload_n 0, 1) := by decide +kernel
theorem dX7_staff_54 : decode cX7_staff 54 = .ok (.getfield 19, 3) := by decide +kernel
theorem dX7_staff_57 : decode cX7_staff 57 = .ok (.iload_n 1, 1) := by decide +kernel
theorem dX7_staff_58 : decode cX7_staff 58 = .ok (.invokevirtual 98, 3) := by decide +kernel
theorem dX7_staff_61 : decode cX7_staff 61 = .ok (.goto 11, 3) := by decide +kernel
theorem dX7_staff_64 : decode cX7_staff 64 = .ok (.aload_n 0, 1) := by decide +kernel
theorem dX7_staff_65 : decode cX7_staff 65 = .ok (.getfield 19, 3) := by decide +kernel
theorem dX7_staff_68 : decode cX7_staff 68 = .ok (.iload_n 1, 1) := by decide +kernel
theorem dX7_staff_69 : decode cX7_staff 69 = .ok (.invokevirtual 102, 3) := by decide +kernel
theorem dX7_staff_72 : decode cX7_staff 72 = .ok (.ireturn, 1) := by decide +kernel
theorem dX7_find_0 : decode cX7_find 0 = .ok (.aload_n 0, 1) := by decide +kernel
theorem dX7_find_1 : decode cX7_find 1 = .ok (.getfield 19, 3) := by decide +kernel
theorem dX7_find_4 : decode cX7_find 4 = .ok (.aload_n 0, 1) := by decide +kernel
theorem dX7_find_5 : decode cX7_find 5 = .ok (.getfield 12, 3) := by decide +kernel
theorem dX7_find_8 : decode cX7_find 8 = .ok (.aload_n 0, 1) := by decide +kernel
theorem dX7_find_9 : decode cX7_find 9 = .ok (.getfield 51, 3) := by decide +kernel
theorem dX7_find_12 : decode cX7_find 12 = .ok (.invokevirtual 86, 3) := by decide +kernel
theorem dX7_find_15 : decode cX7_find 15 = .ok (.aload_n 0, 1) := by decide +kernel
theorem dX7_find_16 : decode cX7_find 16 = .ok (.aload_n 0, 1) := by decide +kernel
theorem dX7_find_17 : decode cX7_find 17 = .ok (.getfield 26, 3) := by decide +kernel
theorem dX7_find_20 : decode cX7_find 20 = .ok (.aload_n 0, 1) := by decide +kernel
theorem dX7_find_21 : decode cX7_find 21 = .ok (.getfield 12, 3) := by decide +kernel
theorem dX7_find_24 : decode cX7_find 24 = .ok (.aload_n 0, 1) := by decide +kernel
theorem dX7_find_25 : decode cX7_find 25 = .ok (.getfield 19, 3) := by decide +kernel
theorem dX7_find_28 : decode cX7_find 28 = .ok (.invokevirtual 105, 3) := by decide +kernel
theorem dX7_find_31 : decode cX7_find 31 = .ok (.putfield 55, 3) := by decide +kernel
theorem dX7_find_34 : decode cX7_find 34 = .ok (.aload_n 0, 1) := by decide +kernel
theorem dX7_find_35 : decode cX7_find 35 = .ok (.iconst 1, 1) := by decide +kernel
theorem dX7_find_36 : decode cX7_find 36 = .ok (.putfield 59, 3) := by decide +kernel
theorem dX7_find_39 : decode cX7_find 39 = .ok (.aload_n 0, 1) := by decide +kernel
theorem dX7_find_40 : decode cX7_find 40 = .ok (.getfield 55, 3) := by decide +kernel
theorem dX7_find_43 : decode cX7_find 43 = .ok (.ifCond .eq 13, 3) := by decide +kernel
theorem dX7_find_46 : decode cX7_find 46 = .ok (.aload_n 0, 1) := by decide +kernel
theorem dX7_find_47 : decode cX7_find 47 = .ok (.getfield 26, 3) := by decide +kernel
theorem dX7_find_50 : decode cX7_find 50 = .ok (.invokevirtual 109, 3) := by decide +kernel
theorem dX7_find_53 : decode cX7_find 53 = .ok (.goto 5, 3) := by decide +kernel
theorem dX7_find_56 : decode cX7_find 56 = .ok (.bipush (-4), 2) := by decide +kernel
theorem dX7_find_58 : decode cX7_find 58 = .ok (.ireturn, 1) := by decide +kernel
theorem dX7_sign_0 : decode cX7_sign 0 = .ok (.iload_n 2, 1) := by decide +kernel
theorem dX7_sign_1 : decode cX7_sign 1 = .ok (.iconst 0, 1) := by decide +kernel
theorem dX7_sign_2 : decode cX7_sign 2 = .ok (.bipush 6, 2) := by decide +kernel
theorem dX7_sign_4 : decode cX7_sign 4 = .ok (.invokestatic 62, 3) := by decide +kernel
theorem dX7_sign_7 : decode cX7_sign 7 = .ok (.ifCond .eq 27, 3) := by decide +kernel
theorem dX7_sign_10 : decode cX7_sign 10 = .ok (.aload_n 0, 1) := by decide +kernel
theorem dX7_sign_11 : decode cX7_sign 11 = .ok (.getfield 55, 3) := by decide +kernel
theorem dX7_sign_14 : decode cX7_sign 14 = .ok (.ifCond .eq 20, 3) := by decide +kernel
theorem dX7_sign_17 : decode cX7_sign 17 = .ok (.iload_n 1, 1) := by decide +kernel
theorem dX7_sign_18 : decode cX7_sign 18 = .ok (.iconst 0, 1) := by decide +kernel
theorem dX7_sign_19 : decode cX7_sign 19 = .ok (.aload_n 0, 1) := by decide +kernel
theorem dX7_sign_20 : decode cX7_sign 20 = .ok (.getfield 26, 3) := by decide +kernel
theorem dX7_sign_23 : decode cX7_sign 23 = .ok (.invokevirtual 109, 3) := by decide +kernel
theorem dX7_sign_26 : decode cX7_sign 26 = .ok (.iconst 1, 1) := by decide +kernel
theorem dX7_sign_27 : decode cX7_sign 27 = .ok (.isub, 1) := by decide +kernel
theorem dX7_sign_28 : decode cX7_sign 28 = .ok (.invokestatic 62, 3) := by decide +kernel
theorem dX7_sign_31 : decode cX7_sign 31 = .ok (.ifCond .ne 6, 3) := by decide +kernel
theorem dX7_sign_34 : decode cX7_sign 34 = .ok (.ldc 110, 2) := by decide +kernel
theorem dX7_sign_36 : decode cX7_sign 36 = .ok (.ireturn, 1) := by decide +kernel
theorem dX7_sign_37 : decode cX7_sign 37 = .ok (.iload_n 2, 1) := by decide +kernel
theorem dX7_sign_38 : decode cX7_sign 38 = .ok (.bipush 6, 2) := by decide +kernel
theorem dX7_sign_40 : decode cX7_sign 40 = .ok (.if_icmp .ne 14, 3) := by decide +kernel
theorem dX7_sign_43 : decode cX7_sign 43 = .ok (.aload_n 0, 1) := by decide +kernel
theorem dX7_sign_44 : decode cX7_sign 44 = .ok (.getfield 26, 3) := by decide +kernel
theorem dX7_sign_47 : decode cX7_sign 47 = .ok (.iload_n 1, 1) := by decide +kernel
theorem dX7_sign_48 : decode cX7_sign 48 = .ok (.invokevirtual 111, 3) := by decide +kernel
theorem dX7_sign_51 : decode cX7_sign 51 = .ok (.goto 12, 3) := by decide +kernel
theorem dX7_sign_54 : decode cX7_sign 54 = .ok (.aload_n 0, 1) := by decide +kernel
theorem dX7_sign_55 : decode cX7_sign 55 = .ok (.getfield 26, 3) := by decide +kernel
theorem dX7_sign_58 : decode cX7_sign 58 = .ok (.iload_n 1, 1) := by decide +kernel
theorem dX7_sign_59 : decode cX7_sign 59 = .ok (.iload_n 2, 1) := by decide +kernel
theorem dX7_sign_60 : decode cX7_sign 60 = .ok (.invokevirtual 114, 3) := by decide +kernel
theorem dX7_sign_63 : decode cX7_sign 63 = .ok (.ireturn, 1) := by decide +kernel
theorem dX7_kind_0 : decode cX7_kind 0 = .ok (.iload_n 1, 1) := by decide +kernel
theorem dX7_kind_1 : decode cX7_kind 1 = .ok (.iconst 0, 1) := by decide +kernel
theorem dX7_kind_2 : decode cX7_kind 2 = .ok (.iconst 5, 1) := by decide +kernel
theorem dX7_kind_3 : decode cX7_kind 3 = .ok (.invokestatic 62, 3) := by decide +kernel
theorem dX7_kind_6 : decode cX7_kind 6 = .ok (.ifCond .eq 25, 3) := by decide +kernel
theorem dX7_kind_9 : decode cX7_kind 9 = .ok (.iload_n 2, 1) := by decide +kernel
theorem dX7_kind_10 : decode cX7_kind 10 = .ok (.iconst 0, 1) := by decide +kernel
theorem dX7_kind_11 : decode cX7_kind 11 = .ok (.sipush 2000, 3) := by decide +kernel
theorem dX7_kind_14 : decode cX7_kind 14 = .ok (.invokestatic 62, 3) := by decide +kernel
theorem dX7_kind_17 : decode cX7_kind 17 = .ok (.ifCond .eq 14, 3) := by decide +kernel
theorem dX7_kind_20 : decode cX7_kind 20 = .ok (.iload_n 3, 1) := by decide +kernel
theorem dX7_kind_21 : decode cX7_kind 21 = .ok (.iload_n 2, 1) := by decide +kernel
theorem dX7_kind_22 : decode cX7_kind 22 = .ok (.sipush 2000, 3) := by decide +kernel
theorem dX7_kind_25 : decode cX7_kind 25 = .ok (.invokestatic 62, 3) := by decide +kernel
theorem dX7_kind_28 : decode cX7_kind 28 = .ok (.ifCond .ne 6, 3) := by decide +kernel
theorem dX7_kind_31 : decode cX7_kind 31 = .ok (.bipush (-2), 2) := by decide +kernel
theorem dX7_kind_33 : decode cX7_kind 33 = .ok (.ireturn, 1) := by decide +kernel
theorem dX7_kind_34 : decode cX7_kind 34 = .ok (.iload 4, 2) := by decide +kernel
theorem dX7_kind_36 : decode cX7_kind 36 = .ok (.iconst 1, 1) := by decide +kernel
theorem dX7_kind_37 : decode cX7_kind 37 = .ok (.bipush 32, 2) := by decide +kernel
theorem dX7_kind_39 : decode cX7_kind 39 = .ok (.invokestatic 62, 3) := by decide +kernel
theorem dX7_kind_42 : decode cX7_kind 42 = .ok (.ifCond .eq 14, 3) := by decide +kernel
theorem dX7_kind_45 : decode cX7_kind 45 = .ok (.iload 5, 2) := by decide +kernel
theorem dX7_kind_47 : decode cX7_kind 47 = .ok (.iconst 0, 1) := by decide +kernel
theorem dX7_kind_48 : decode cX7_kind 48 = .ok (.bipush 100, 2) := by decide +kernel
theorem dX7_kind_50 : decode cX7_kind 50 = .ok (.invokestatic 62, 3) := by decide +kernel
theorem dX7_kind_53 : decode cX7_kind 53 = .ok (.ifCond .ne 6, 3) := by decide +kernel
theorem dX7_kind_56 : decode cX7_kind 56 = .ok (.bipush (-2), 2) := by decide +kernel
theorem dX7_kind_58 : decode cX7_kind 58 = .ok (.ireturn, 1) := by decide +kernel
theorem dX7_kind_59 : decode cX7_kind 59 = .ok (.aload_n 0, 1) := by decide +kernel
theorem dX7_kind_60 : decode cX7_kind 60 = .ok (.getfield 33, 3) := by decide +kernel
theorem dX7_kind_63 : decode cX7_kind 63 = .ok (.iload_n 1, 1) := by decide +kernel
theorem dX7_kind_64 : decode cX7_kind 64 = .ok (.iload_n 2, 1) := by decide +kernel
theorem dX7_kind_65 : decode cX7_kind 65 = .ok (.iload_n 3, 1) := by decide +kernel
theorem dX7_kind_66 : decode cX7_kind 66 = .ok (.iload 4, 2) := by decide +kernel
theorem dX7_kind_68 : decode cX7_kind 68 = .ok (.iload 5, 2) := by decide +kernel
theorem dX7_kind_70 : decode cX7_kind 70 = .ok (.invokevirtual 118, 3) := by decide +kernel
theorem dX7_kind_73 : decode cX7_kind 73 = .ok (.aload_n 0, 1) := by decide +kernel
theorem dX7_kind_74 : decode cX7_kind 74 = .ok (.iconst 1, 1) := by decide +kernel
theorem dX7_kind_75 : decode cX7_kind 75 = .ok (.putfield 59, 3) := by decide +kernel
theorem dX7_kind_78 : decode cX7_kind 78 = .ok (.iconst 1, 1) := by decide +kernel
theorem dX7_kind_79 : decode cX7_kind 79 = .ok (.ireturn, 1) := by decide +kernel
theorem dX7_set_0 : decode cX7_set 0 = .ok (.iload_n 1, 1) := by decide +kernel
theorem dX7_set_1 : decode cX7_set 1 = .ok (.ifCond .ne 28, 3) := by decide +kernel
theorem dX7_set_4 : decode cX7_set 4 = .ok (.iload_n 2, 1) := by decide +kernel
theorem dX7_set_5 : decode cX7_set 5 = .ok (.iconst 0, 1) := by decide +kernel
theorem dX7_set_6 : decode cX7_set 6 = .ok (.sipush 1000, 3) := by decide +kernel
theorem dX7_set_9 : decode cX7_set 9 = .ok (.invokestatic 62, 3) := by decide +kernel
theorem dX7_set_12 : decode cX7_set 12 = .ok (.ifCond .eq 17, 3) := by decide +kernel
theorem dX7_set_15 : decode cX7_set 15 = .ok (.aload_n 0, 1) := by decide +kernel
theorem dX7_set_16 : decode cX7_set 16 = .ok (.iconst 1, 1) := by decide +kernel
theorem dX7_set_17 : decode cX7_set 17 = .ok (.putfield 59, 3) := by decide +kernel
theorem dX7_set_20 : decode cX7_set 20 = .ok (.aload_n 0, 1) := by decide +kernel
theorem dX7_set_21 : decode cX7_set 21 = .ok (.getfield 33, 3) := by decide +kernel
theorem dX7_set_24 : decode cX7_set 24 = .ok (.iload_n 2, 1) := by decide +kernel
theorem dX7_set_25 : decode cX7_set 25 = .ok (.invokevirtual 122, 3) := by decide +kernel
theorem dX7_set_28 : decode cX7_set 28 = .ok (.ireturn, 1) := by decide +kernel
theorem dX7_set_29 : decode cX7_set 29 = .ok (.iload_n 1, 1) := by decide +kernel
theorem dX7_set_30 : decode cX7_set 30 = .ok (.iconst 1, 1) := by decide +kernel
theorem dX7_set_31 : decode cX7_set 31 = .ok (.if_icmp .ne 27, 3) := by decide +kernel
theorem dX7_set_34 : decode cX7_set 34 = .ok (.iload_n 2, 1) := by decide +kernel
theorem dX7_set_35 : decode cX7_set 35 = .ok (.iconst 2, 1) := by decide +kernel
theorem dX7_set_36 : decode cX7_set 36 = .ok (.bipush 48, 2) := by decide +kernel
theorem dX7_set_38 : decode cX7_set 38 = .ok (.invokestatic 62, 3) := by decide +kernel
theorem dX7_set_41 : decode cX7_set 41 = .ok (.ifCond .eq 17, 3) := by decide +kernel
theorem dX7_set_44 : decode cX7_set 44 = .ok (.aload_n 0, 1) := by decide +kernel
theorem dX7_set_45 : decode cX7_set 45 = .ok (.iconst 1, 1) := by decide +kernel
theorem dX7_set_46 : decode cX7_set 46 = .ok (.putfield 59, 3) := by decide +kernel
theorem dX7_set_49 : decode cX7_set 49 = .ok (.aload_n 0, 1) := by decide +kernel
theorem dX7_set_50 : decode cX7_set 50 = .ok (.getfield 33, 3) := by decide +kernel
theorem dX7_set_53 : decode cX7_set 53 = .ok (.iload_n 2, 1) := by decide +kernel
theorem dX7_set_54 : decode cX7_set 54 = .ok (.invokevirtual 125, 3) := by decide +kernel
theorem dX7_set_57 : decode cX7_set 57 = .ok (.ireturn, 1) := by decide +kernel
theorem dX7_set_58 : decode cX7_set 58 = .ok (.bipush (-2), 2) := by decide +kernel
theorem dX7_set_60 : decode cX7_set 60 = .ok (.ireturn, 1) := by decide +kernel
theorem dX7_correct_0 : decode cX7_correct 0 = .ok (.iload_n 2, 1) := by decide +kernel
theorem dX7_correct_1 : decode cX7_correct 1 = .ok (.iconst (-1), 1) := by decide +kernel
theorem dX7_correct_2 : decode cX7_correct 2 = .ok (.bipush 6, 2) := by decide +kernel
theorem dX7_correct_4 : decode cX7_correct 4 = .ok (.invokestatic 62, 3) := by decide +kernel
theorem dX7_correct_7 : decode cX7_correct 7 = .ok (.ifCond .ne 6, 3) := by decide +kernel
theorem dX7_correct_10 : decode cX7_correct 10 = .ok (.bipush (-2), 2) := by decide +kernel
theorem dX7_correct_12 : decode cX7_correct 12 = .ok (.ireturn, 1) := by decide +kernel
theorem dX7_correct_13 : decode cX7_correct 13 = .ok (.aload_n 0, 1) := by decide +kernel
theorem dX7_correct_14 : decode cX7_correct 14 = .ok (.iload_n 1, 1) := by decide +kernel
theorem dX7_correct_15 : decode cX7_correct 15 = .ok (.invokevirtual 128, 3) := by decide +kernel
theorem dX7_correct_18 : decode cX7_correct 18 = .ok (.istore_n 3, 1) := by decide +kernel
theorem dX7_correct_19 : decode cX7_correct 19 = .ok (.iload_n 3, 1) := by decide +kernel
theorem dX7_correct_20 : decode cX7_correct 20 = .ok (.ifCond .eq 5, 3) := by decide +kernel
theorem dX7_correct_23 : decode cX7_correct 23 = .ok (.iload_n 3, 1) := by decide +kernel
theorem dX7_correct_24 : decode cX7_correct 24 = .ok (.ireturn, 1) := by decide +kernel
theorem dX7_correct_25 : decode cX7_correct 25 = .ok (.aload_n 0, 1) := by decide +kernel
theorem dX7_correct_26 : decode cX7_correct 26 = .ok (.iconst 1, 1) := by decide +kernel
theorem dX7_correct_27 : decode cX7_correct 27 = .ok (.putfield 59, 3) := by decide +kernel
theorem dX7_correct_30 : decode cX7_correct 30 = .ok (.aload_n 0, 1) := by decide +kernel
theorem dX7_correct_31 : decode cX7_correct 31 = .ok (.getfield 26, 3) := by decide +kernel
theorem dX7_correct_34 : decode cX7_correct 34 = .ok (.iload_n 1, 1) := by decide +kernel
theorem dX7_correct_35 : decode cX7_correct 35 = .ok (.iload_n 2, 1) := by decide +kernel
theorem dX7_correct_36 : decode cX7_correct 36 = .ok (.invokevirtual 131, 3) := by decide +kernel
theorem dX7_correct_39 : decode cX7_correct 39 = .ok (.ireturn, 1) := by decide +kernel
theorem dX7_best_0 : decode cX7_best 0 = .ok (.aload_n 0, 1) := by decide +kernel
theorem dX7_best_1 : decode cX7_best 1 = .ok (.invokevirtual 134, 3) := by decide +kernel
theorem dX7_best_4 : decode cX7_best 4 = .ok (.ifCond .eq 13, 3) := by decide +kernel
theorem dX7_best_7 : decode cX7_best 7 = .ok (.aload_n 0, 1) := by decide +kernel
theorem dX7_best_8 : decode cX7_best 8 = .ok (.getfield 40, 3) := by decide +kernel
theorem dX7_best_11 : decode cX7_best 11 = .ok (.invokevirtual 137, 3) := by decide +kernel
theorem dX7_best_14 : decode cX7_best 14 = .ok (.goto 5, 3) := by decide +kernel
theorem dX7_best_17 : decode cX7_best 17 = .ok (.bipush (-3), 2) := by decide +kernel
theorem dX7_best_19 : decode cX7_best 19 = .ok (.ireturn, 1) := by decide +kernel
theorem dX7_read_0 : decode cX7_read 0 = .ok (.aload_n 0, 1) := by decide +kernel
theorem dX7_read_1 : decode cX7_read 1 = .ok (.iload_n 1, 1) := by decide +kernel
theorem dX7_read_2 : decode cX7_read 2 = .ok (.invokevirtual 128, 3) := by decide +kernel
theorem dX7_read_5 : decode cX7_read 5 = .ok (.istore_n 2, 1) := by decide +kernel
theorem dX7_read_6 : decode cX7_read 6 = .ok (.iload_n 2, 1) := by decide +kernel
theorem dX7_read_7 : decode cX7_read 7 = .ok (.ifCond .eq 5, 3) := by decide +kernel
theorem dX7_read_10 : decode cX7_read 10 = .ok (.iload_n 2, 1) := by decide +kernel
theorem dX7_read_11 : decode cX7_read 11 = .ok (.ireturn, 1) := by decide +kernel
theorem dX7_read_12 : decode cX7_read 12 = .ok (.aload_n 0, 1) := by decide +kernel
theorem dX7_read_13 : decode cX7_read 13 = .ok (.invokevirtual 134, 3) := by decide +kernel
theorem dX7_read_16 : decode cX7_read 16 = .ok (.ifCond .eq 14, 3) := by decide +kernel
theorem dX7_read_19 : decode cX7_read 19 = .ok (.aload_n 0, 1) := by decide +kernel
theorem dX7_read_20 : decode cX7_read 20 = .ok (.getfield 40, 3) := by decide +kernel
theorem dX7_read_23 : decode cX7_read 23 = .ok (.iload_n 1, 1) := by decide +kernel
theorem dX7_read_24 : decode cX7_read 24 = .ok (.invokevirtual 140, 3) := by decide +kernel
theorem dX7_read_27 : decode cX7_read 27 = .ok (.goto 5, 3) := by decide +kernel
theorem dX7_read_30 : decode cX7_read 30 = .ok (.bipush (-3), 2) := by decide +kernel
theorem dX7_read_32 : decode cX7_read 32 = .ok (.ireturn, 1) := by decide +kernel
theorem dX7_doubt_0 : decode cX7_doubt 0 = .ok (.aload_n 0, 1) := by decide +kernel
theorem dX7_doubt_1 : decode cX7_doubt 1 = .ok (.iload_n 1, 1) := by decide +kernel
theorem dX7_doubt_2 : decode cX7_doubt 2 = .ok (.invokevirtual 128, 3) := by decide +kernel
theorem dX7_doubt_5 : decode cX7_doubt 5 = .ok (.istore_n 2, 1) := by decide +kernel
theorem dX7_doubt_6 : decode cX7_doubt 6 = .ok (.iload_n 2, 1) := by decide +kernel
theorem dX7_doubt_7 : decode cX7_doubt 7 = .ok (.ifCond .eq 5, 3) := by decide +kernel
theorem dX7_doubt_10 : decode cX7_doubt 10 = .ok (.iload_n 2, 1) := by decide +kernel
theorem dX7_doubt_11 : decode cX7_doubt 11 = .ok (.ireturn, 1) := by decide +kernel
theorem dX7_doubt_12 : decode cX7_doubt 12 = .ok (.aload_n 0, 1) := by decide +kernel
theorem dX7_doubt_13 : decode cX7_doubt 13 = .ok (.invokevirtual 134, 3) := by decide +kernel
theorem dX7_doubt_16 : decode cX7_doubt 16 = .ok (.ifCond .eq 14, 3) := by decide +kernel
theorem dX7_doubt_19 : decode cX7_doubt 19 = .ok (.aload_n 0, 1) := by decide +kernel
theorem dX7_doubt_20 : decode cX7_doubt 20 = .ok (.getfield 40, 3) := by decide +kernel
theorem dX7_doubt_23 : decode cX7_doubt 23 = .ok (.iload_n 1, 1) := by decide +kernel
theorem dX7_doubt_24 : decode cX7_doubt 24 = .ok (.invokevirtual 143, 3) := by decide +kernel
theorem dX7_doubt_27 : decode cX7_doubt 27 = .ok (.goto 5, 3) := by decide +kernel
theorem dX7_doubt_30 : decode cX7_doubt 30 = .ok (.bipush (-3), 2) := by decide +kernel
theorem dX7_doubt_32 : decode cX7_doubt 32 = .ok (.ireturn, 1) := by decide +kernel
theorem dX7_question_0 : decode cX7_question 0 = .ok (.aload_n 0, 1) := by decide +kernel
theorem dX7_question_1 : decode cX7_question 1 = .ok (.invokevirtual 134, 3) := by decide +kernel
theorem dX7_question_4 : decode cX7_question 4 = .ok (.ifCond .eq 13, 3) := by decide +kernel
theorem dX7_question_7 : decode cX7_question 7 = .ok (.aload_n 0, 1) := by decide +kernel
theorem dX7_question_8 : decode cX7_question 8 = .ok (.getfield 40, 3) := by decide +kernel
theorem dX7_question_11 : decode cX7_question 11 = .ok (.invokevirtual 146, 3) := by decide +kernel
theorem dX7_question_14 : decode cX7_question 14 = .ok (.goto 5, 3) := by decide +kernel
theorem dX7_question_17 : decode cX7_question 17 = .ok (.bipush (-3), 2) := by decide +kernel
theorem dX7_question_19 : decode cX7_question 19 = .ok (.ireturn, 1) := by decide +kernel
theorem dX7_measures_0 : decode cX7_measures 0 = .ok (.aload_n 0, 1) := by decide +kernel
theorem dX7_measures_1 : decode cX7_measures 1 = .ok (.invokevirtual 134, 3) := by decide +kernel
theorem dX7_measures_4 : decode cX7_measures 4 = .ok (.ifCond .eq 13, 3) := by decide +kernel
theorem dX7_measures_7 : decode cX7_measures 7 = .ok (.aload_n 0, 1) := by decide +kernel
theorem dX7_measures_8 : decode cX7_measures 8 = .ok (.getfield 40, 3) := by decide +kernel
theorem dX7_measures_11 : decode cX7_measures 11 = .ok (.invokevirtual 149, 3) := by decide +kernel
theorem dX7_measures_14 : decode cX7_measures 14 = .ok (.goto 5, 3) := by decide +kernel
theorem dX7_measures_17 : decode cX7_measures 17 = .ok (.bipush (-3), 2) := by decide +kernel
theorem dX7_measures_19 : decode cX7_measures 19 = .ok (.ireturn, 1) := by decide +kernel
theorem dX7_note_0 : decode cX7_note 0 = .ok (.iload_n 3, 1) := by decide +kernel
theorem dX7_note_1 : decode cX7_note 1 = .ok (.iconst 0, 1) := by decide +kernel
theorem dX7_note_2 : decode cX7_note 2 = .ok (.iconst 2, 1) := by decide +kernel
theorem dX7_note_3 : decode cX7_note 3 = .ok (.invokestatic 62, 3) := by decide +kernel
theorem dX7_note_6 : decode cX7_note 6 = .ok (.ifCond .eq 10, 3) := by decide +kernel
theorem dX7_note_9 : decode cX7_note 9 = .ok (.aload_n 0, 1) := by decide +kernel
theorem dX7_note_10 : decode cX7_note 10 = .ok (.invokevirtual 134, 3) := by decide +kernel
theorem dX7_note_13 : decode cX7_note 13 = .ok (.ifCond .ne 6, 3) := by decide +kernel
theorem dX7_note_16 : decode cX7_note 16 = .ok (.ldc 110, 2) := by decide +kernel
theorem dX7_note_18 : decode cX7_note 18 = .ok (.ireturn, 1) := by decide +kernel
theorem dX7_note_19 : decode cX7_note 19 = .ok (.aload_n 0, 1) := by decide +kernel
theorem dX7_note_20 : decode cX7_note 20 = .ok (.getfield 40, 3) := by decide +kernel
theorem dX7_note_23 : decode cX7_note 23 = .ok (.iload_n 1, 1) := by decide +kernel
theorem dX7_note_24 : decode cX7_note 24 = .ok (.iload_n 2, 1) := by decide +kernel
theorem dX7_note_25 : decode cX7_note 25 = .ok (.invokevirtual 152, 3) := by decide +kernel
theorem dX7_note_28 : decode cX7_note 28 = .ok (.istore 4, 2) := by decide +kernel
theorem dX7_note_30 : decode cX7_note 30 = .ok (.iload 4, 2) := by decide +kernel
theorem dX7_note_32 : decode cX7_note 32 = .ok (.iconst (-1), 1) := by decide +kernel
theorem dX7_note_33 : decode cX7_note 33 = .ok (.if_icmp .ne 6, 3) := by decide +kernel
theorem dX7_note_36 : decode cX7_note 36 = .ok (.ldc 110, 2) := by decide +kernel
theorem dX7_note_38 : decode cX7_note 38 = .ok (.ireturn, 1) := by decide +kernel
theorem dX7_note_39 : decode cX7_note 39 = .ok (.iload_n 3, 1) := by decide +kernel
theorem dX7_note_40 : decode cX7_note 40 = .ok (.ifCond .ne 6, 3) := by decide +kernel
theorem dX7_note_43 : decode cX7_note 43 = .ok (.iload 4, 2) := by decide +kernel
theorem dX7_note_45 : decode cX7_note 45 = .ok (.ireturn, 1) := by decide +kernel
theorem dX7_note_46 : decode cX7_note 46 = .ok (.iload_n 3, 1) := by decide +kernel
theorem dX7_note_47 : decode cX7_note 47 = .ok (.iconst 1, 1) := by decide +kernel
theorem dX7_note_48 : decode cX7_note 48 = .ok (.if_icmp .ne 16, 3) := by decide +kernel
theorem dX7_note_51 : decode cX7_note 51 = .ok (.aload_n 0, 1) := by decide +kernel
theorem dX7_note_52 : decode cX7_note 52 = .ok (.getfield 26, 3) := by decide +kernel
theorem dX7_note_55 : decode cX7_note 55 = .ok (.iload 4, 2) := by decide +kernel
theorem dX7_note_57 : decode cX7_note 57 = .ok (.iconst 5, 1) := by decide +kernel
theorem dX7_note_58 : decode cX7_note 58 = .ok (.invokevirtual 114, 3) := by decide +kernel
theorem dX7_note_61 : decode cX7_note 61 = .ok (.goto 12, 3) := by decide +kernel
theorem dX7_note_64 : decode cX7_note 64 = .ok (.aload_n 0, 1) := by decide +kernel
theorem dX7_note_65 : decode cX7_note 65 = .ok (.getfield 40, 3) := by decide +kernel
theorem dX7_note_68 : decode cX7_note 68 = .ok (.iload 4, 2) := by decide +kernel
theorem dX7_note_70 : decode cX7_note 70 = .ok (.invokevirtual 155, 3) := by decide +kernel
theorem dX7_note_73 : decode cX7_note 73 = .ok (.ireturn, 1) := by decide +kernel
theorem dX7_sway_0 : decode cX7_sway 0 = .ok (.iload_n 1, 1) := by decide +kernel
theorem dX7_sway_1 : decode cX7_sway 1 = .ok (.iconst 0, 1) := by decide +kernel
theorem dX7_sway_2 : decode cX7_sway 2 = .ok (.bipush 39, 2) := by decide +kernel
theorem dX7_sway_4 : decode cX7_sway 4 = .ok (.invokestatic 62, 3) := by decide +kernel
theorem dX7_sway_7 : decode cX7_sway 7 = .ok (.ifCond .eq 12, 3) := by decide +kernel
theorem dX7_sway_10 : decode cX7_sway 10 = .ok (.iload_n 2, 1) := by decide +kernel
theorem dX7_sway_11 : decode cX7_sway 11 = .ok (.iconst 0, 1) := by decide +kernel
theorem dX7_sway_12 : decode cX7_sway 12 = .ok (.iconst 4, 1) := by decide +kernel
theorem dX7_sway_13 : decode cX7_sway 13 = .ok (.invokestatic 62, 3) := by decide +kernel
theorem dX7_sway_16 : decode cX7_sway 16 = .ok (.ifCond .ne 6, 3) := by decide +kernel
theorem dX7_sway_19 : decode cX7_sway 19 = .ok (.bipush (-2), 2) := by decide +kernel
theorem dX7_sway_21 : decode cX7_sway 21 = .ok (.ireturn, 1) := by decide +kernel
theorem dX7_sway_22 : decode cX7_sway 22 = .ok (.aload_n 0, 1) := by decide +kernel
theorem dX7_sway_23 : decode cX7_sway 23 = .ok (.getfield 47, 3) := by decide +kernel
theorem dX7_sway_26 : decode cX7_sway 26 = .ok (.iload_n 1, 1) := by decide +kernel
theorem dX7_sway_27 : decode cX7_sway 27 = .ok (.iload_n 2, 1) := by decide +kernel
theorem dX7_sway_28 : decode cX7_sway 28 = .ok (.invokevirtual 158, 3) := by decide +kernel
theorem dX7_sway_31 : decode cX7_sway 31 = .ok (.ireturn, 1) := by decide +kernel
theorem dX7_played_0 : decode cX7_played 0 = .ok (.iload_n 1, 1) := by decide +kernel
theorem dX7_played_1 : decode cX7_played 1 = .ok (.iconst 0, 1) := by decide +kernel
theorem dX7_played_2 : decode cX7_played 2 = .ok (.sipush 199, 3) := by decide +kernel
theorem dX7_played_5 : decode cX7_played 5 = .ok (.invokestatic 62, 3) := by decide +kernel
theorem dX7_played_8 : decode cX7_played 8 = .ok (.ifCond .ne 6, 3) := by decide +kernel
theorem dX7_played_11 : decode cX7_played 11 = .ok (.bipush (-2), 2) := by decide +kernel
theorem dX7_played_13 : decode cX7_played 13 = .ok (.ireturn, 1) := by decide +kernel
theorem dX7_played_14 : decode cX7_played 14 = .ok (.aload_n 0, 1) := by decide +kernel
theorem dX7_played_15 : decode cX7_played 15 = .ok (.invokevirtual 134, 3) := by decide +kernel
theorem dX7_played_18 : decode cX7_played 18 = .ok (.ifCond .eq 21, 3) := by decide +kernel
theorem dX7_played_21 : decode cX7_played 21 = .ok (.aload_n 0, 1) := by decide +kernel
theorem dX7_played_22 : decode cX7_played 22 = .ok (.getfield 47, 3) := by decide +kernel
theorem dX7_played_25 : decode cX7_played 25 = .ok (.iload_n 1, 1) := by decide +kernel
theorem dX7_played_26 : decode cX7_played 26 = .ok (.aload_n 0, 1) := by decide +kernel
theorem dX7_played_27 : decode cX7_played 27 = .ok (.getfield 40, 3) := by decide +kernel
theorem dX7_played_30 : decode cX7_played 30 = .ok (.invokevirtual 149, 3) := by decide +kernel
theorem dX7_played_33 : decode cX7_played 33 = .ok (.invokevirtual 161, 3) := by decide +kernel
theorem dX7_played_36 : decode cX7_played 36 = .ok (.goto 5, 3) := by decide +kernel
theorem dX7_played_39 : decode cX7_played 39 = .ok (.bipush (-3), 2) := by decide +kernel
theorem dX7_played_41 : decode cX7_played 41 = .ok (.ireturn, 1) := by decide +kernel
theorem dX7_count_0 : decode cX7_count 0 = .ok (.iload_n 1, 1) := by decide +kernel
theorem dX7_count_1 : decode cX7_count 1 = .ok (.iconst 0, 1) := by decide +kernel
theorem dX7_count_2 : decode cX7_count 2 = .ok (.iconst 4, 1) := by decide +kernel
theorem dX7_count_3 : decode cX7_count 3 = .ok (.invokestatic 62, 3) := by decide +kernel
theorem dX7_count_6 : decode cX7_count 6 = .ok (.ifCond .ne 6, 3) := by decide +kernel
theorem dX7_count_9 : decode cX7_count 9 = .ok (.bipush (-2), 2) := by decide +kernel
theorem dX7_count_11 : decode cX7_count 11 = .ok (.ireturn, 1) := by decide +kernel
theorem dX7_count_12 : decode cX7_count 12 = .ok (.iload_n 1, 1) := by decide +kernel
theorem dX7_count_13 : decode cX7_count 13 = .ok (.ifCond .ne 22, 3) := by decide +kernel
theorem dX7_count_16 : decode cX7_count 16 = .ok (.aload_n 0, 1) := by decide +kernel
theorem dX7_count_17 : decode cX7_count 17 = .ok (.getfield 55, 3) := by decide +kernel
theorem dX7_count_20 : decode cX7_count 20 = .ok (.ifCond .eq 13, 3) := by decide +kernel
theorem dX7_count_23 : decode cX7_count 23 = .ok (.aload_n 0, 1) := by decide +kernel
theorem dX7_count_24 : decode cX7_count 24 = .ok (.getfield 26, 3) := by decide +kernel
theorem dX7_count_27 : decode cX7_count 27 = .ok (.invokevirtual 109, 3) := by decide +kernel
theorem dX7_count_30 : decode cX7_count 30 = .ok (.goto 4, 3) := by decide +kernel
theorem dX7_count_33 : decode cX7_count 33 = .ok (.iconst (-1), 1) := by decide +kernel
theorem dX7_count_34 : decode cX7_count 34 = .ok (.ireturn, 1) := by decide +kernel
theorem dX7_count_35 : decode cX7_count 35 = .ok (.iload_n 1, 1) := by decide +kernel
theorem dX7_count_36 : decode cX7_count 36 = .ok (.iconst 3, 1) := by decide +kernel
theorem dX7_count_37 : decode cX7_count 37 = .ok (.if_icmp .ne 11, 3) := by decide +kernel
theorem dX7_count_40 : decode cX7_count 40 = .ok (.aload_n 0, 1) := by decide +kernel
theorem dX7_count_41 : decode cX7_count 41 = .ok (.getfield 26, 3) := by decide +kernel
theorem dX7_count_44 : decode cX7_count 44 = .ok (.invokevirtual 164, 3) := by decide +kernel
theorem dX7_count_47 : decode cX7_count 47 = .ok (.ireturn, 1) := by decide +kernel
theorem dX7_count_48 : decode cX7_count 48 = .ok (.iload_n 1, 1) := by decide +kernel
theorem dX7_count_49 : decode cX7_count 49 = .ok (.iconst 4, 1) := by decide +kernel
theorem dX7_count_50 : decode cX7_count 50 = .ok (.if_icmp .ne 11, 3) := by decide +kernel
theorem dX7_count_53 : decode cX7_count 53 = .ok (.aload_n 0, 1) := by decide +kernel
theorem dX7_count_54 : decode cX7_count 54 = .ok (.getfield 12, 3) := by decide +kernel
theorem dX7_count_57 : decode cX7_count 57 = .ok (.invokevirtual 167, 3) := by decide +kernel
theorem dX7_count_60 : decode cX7_count 60 = .ok (.ireturn, 1) := by decide +kernel
theorem dX7_count_61 : decode cX7_count 61 = .ok (.aload_n 0, 1) := by decide +kernel
theorem dX7_count_62 : decode cX7_count 62 = .ok (.getfield 19, 3) := by decide +kernel
theorem dX7_count_65 : decode cX7_count 65 = .ok (.aload_n 0, 1) := by decide +kernel
theorem dX7_count_66 : decode cX7_count 66 = .ok (.getfield 12, 3) := by decide +kernel
theorem dX7_count_69 : decode cX7_count 69 = .ok (.aload_n 0, 1) := by decide +kernel
theorem dX7_count_70 : decode cX7_count 70 = .ok (.getfield 51, 3) := by decide +kernel
theorem dX7_count_73 : decode cX7_count 73 = .ok (.invokevirtual 86, 3) := by decide +kernel
theorem dX7_count_76 : decode cX7_count 76 = .ok (.iload_n 1, 1) := by decide +kernel
theorem dX7_count_77 : decode cX7_count 77 = .ok (.iconst 1, 1) := by decide +kernel
theorem dX7_count_78 : decode cX7_count 78 = .ok (.if_icmp .ne 19, 3) := by decide +kernel
theorem dX7_count_81 : decode cX7_count 81 = .ok (.aload_n 0, 1) := by decide +kernel
theorem dX7_count_82 : decode cX7_count 82 = .ok (.getfield 19, 3) := by decide +kernel
theorem dX7_count_85 : decode cX7_count 85 = .ok (.invokevirtual 94, 3) := by decide +kernel
theorem dX7_count_88 : decode cX7_count 88 = .ok (.ifCond .eq 7, 3) := by decide +kernel
theorem dX7_count_91 : decode cX7_count 91 = .ok (.iconst 1, 1) := by decide +kernel
theorem dX7_count_92 : decode cX7_count 92 = .ok (.goto 4, 3) := by decide +kernel
theorem dX7_count_95 : decode cX7_count 95 = .ok (.iconst 0, 1) := by decide +kernel
theorem dX7_count_96 : decode cX7_count 96 = .ok (.ireturn, 1) := by decide +kernel
theorem dX7_count_97 : decode cX7_count 97 = .ok (.aload_n 0, 1) := by decide +kernel
theorem dX7_count_98 : decode cX7_count 98 = .ok (.getfield 19, 3) := by decide +kernel
theorem dX7_count_101 : decode cX7_count 101 = .ok (.invokevirtual 170, 3) := by decide +kernel
theorem dX7_count_104 : decode cX7_count 104 = .ok (.ireturn, 1) := by decide +kernel
theorem dX7_within_0 : decode cX7_within 0 = .ok (.iload_n 0, 1) := by decide +kernel
theorem dX7_within_1 : decode cX7_within 1 = .ok (.iload_n 1, 1) := by decide +kernel
theorem dX7_within_2 : decode cX7_within 2 = .ok (.if_icmp .lt 12, 3) := by decide +kernel
theorem dX7_within_5 : decode cX7_within 5 = .ok (.iload_n 0, 1) := by decide +kernel
theorem dX7_within_6 : decode cX7_within 6 = .ok (.iload_n 2, 1) := by decide +kernel
theorem dX7_within_7 : decode cX7_within 7 = .ok (.if_icmp .gt 7, 3) := by decide +kernel
theorem dX7_within_10 : decode cX7_within 10 = .ok (.iconst 1, 1) := by decide +kernel
theorem dX7_within_11 : decode cX7_within 11 = .ok (.goto 4, 3) := by decide +kernel
theorem dX7_within_14 : decode cX7_within 14 = .ok (.iconst 0, 1) := by decide +kernel
theorem dX7_within_15 : decode cX7_within 15 = .ok (.ireturn, 1) := by decide +kernel
theorem dX7_againstSign_0 : decode cX7_againstSign 0 = .ok (.iload_n 1, 1) := by decide +kernel
theorem dX7_againstSign_1 : decode cX7_againstSign 1 = .ok (.iconst 0, 1) := by decide +kernel
theorem dX7_againstSign_2 : decode cX7_againstSign 2 = .ok (.bipush 39, 2) := by decide +kernel
theorem dX7_againstSign_4 : decode cX7_againstSign 4 = .ok (.invokestatic 62, 3) := by decide +kernel
theorem dX7_againstSign_7 : decode cX7_againstSign 7 = .ok (.ifCond .ne 6, 3) := by decide +kernel
theorem dX7_againstSign_10 : decode cX7_againstSign 10 = .ok (.bipush (-2), 2) := by decide +kernel
theorem dX7_againstSign_12 : decode cX7_againstSign 12 = .ok (.ireturn, 1) := by decide +kernel
theorem dX7_againstSign_13 : decode cX7_againstSign 13 = .ok (.aload_n 0, 1) := by decide +kernel
theorem dX7_againstSign_14 : decode cX7_againstSign 14 = .ok (.getfield 55, 3) := by decide +kernel
theorem dX7_againstSign_17 : decode cX7_againstSign 17 = .ok (.ifCond .ne 6, 3) := by decide +kernel
theorem dX7_againstSign_20 : decode cX7_againstSign 20 = .ok (.bipush (-3), 2) := by decide +kernel
theorem dX7_againstSign_22 : decode cX7_againstSign 22 = .ok (.ireturn, 1) := by decide +kernel
theorem dX7_againstSign_23 : decode cX7_againstSign 23 = .ok (.iload_n 1, 1) := by decide +kernel
theorem dX7_againstSign_24 : decode cX7_againstSign 24 = .ok (.aload_n 0, 1) := by decide +kernel
theorem dX7_againstSign_25 : decode cX7_againstSign 25 = .ok (.getfield 26, 3) := by decide +kernel
theorem dX7_againstSign_28 : decode cX7_againstSign 28 = .ok (.invokevirtual 109, 3) := by decide +kernel
theorem dX7_againstSign_31 : decode cX7_againstSign 31 = .ok (.if_icmp .ge 7, 3) := by decide +kernel
theorem dX7_againstSign_34 : decode cX7_againstSign 34 = .ok (.iconst 0, 1) := by decide +kernel
theorem dX7_againstSign_35 : decode cX7_againstSign 35 = .ok (.goto 5, 3) := by decide +kernel
theorem dX7_againstSign_38 : decode cX7_againstSign 38 = .ok (.bipush (-2), 2) := by decide +kernel
theorem dX7_againstSign_40 : decode cX7_againstSign 40 = .ok (.ireturn, 1) := by decide +kernel
theorem dX7_hasReading_0 : decode cX7_hasReading 0 = .ok (.aload_n 0, 1) := by decide +kernel
theorem dX7_hasReading_1 : decode cX7_hasReading 1 = .ok (.getfield 55, 3) := by decide +kernel
theorem dX7_hasReading_4 : decode cX7_hasReading 4 = .ok (.ifCond .ne 5, 3) := by decide +kernel
theorem dX7_hasReading_7 : decode cX7_hasReading 7 = .ok (.iconst 0, 1) := by decide +kernel
theorem dX7_hasReading_8 : decode cX7_hasReading 8 = .ok (.ireturn, 1) := by decide +kernel
theorem dX7_hasReading_9 : decode cX7_hasReading 9 = .ok (.aload_n 0, 1) := by decide +kernel
theorem dX7_hasReading_10 : decode cX7_hasReading 10 = .ok (.getfield 59, 3) := by decide +kernel
theorem dX7_hasReading_13 : decode cX7_hasReading 13 = .ok (.ifCond .eq 23, 3) := by decide +kernel
theorem dX7_hasReading_16 : decode cX7_hasReading 16 = .ok (.aload_n 0, 1) := by decide +kernel
theorem dX7_hasReading_17 : decode cX7_hasReading 17 = .ok (.getfield 40, 3) := by decide +kernel
theorem dX7_hasReading_20 : decode cX7_hasReading 20 = .ok (.aload_n 0, 1) := by decide +kernel
theorem dX7_hasReading_21 : decode cX7_hasReading 21 = .ok (.getfield 26, 3) := by decide +kernel
theorem dX7_hasReading_24 : decode cX7_hasReading 24 = .ok (.aload_n 0, 1) := by decide +kernel
theorem dX7_hasReading_25 : decode cX7_hasReading 25 = .ok (.getfield 33, 3) := by decide +kernel
theorem dX7_hasReading_28 : decode cX7_hasReading 28 = .ok (.invokevirtual 173, 3) := by decide +kernel
theorem dX7_hasReading_31 : decode cX7_hasReading 31 = .ok (.aload_n 0, 1) := by decide +kernel
theorem dX7_hasReading_32 : decode cX7_hasReading 32 = .ok (.iconst 0, 1) := by decide +kernel
theorem dX7_hasReading_33 : decode cX7_hasReading 33 = .ok (.putfield 59, 3) := by decide +kernel
theorem dX7_hasReading_36 : decode cX7_hasReading 36 = .ok (.aload_n 0, 1) := by decide +kernel
theorem dX7_hasReading_37 : decode cX7_hasReading 37 = .ok (.getfield 40, 3) := by decide +kernel
theorem dX7_hasReading_40 : decode cX7_hasReading 40 = .ok (.invokevirtual 177, 3) := by decide +kernel
theorem dX7_hasReading_43 : decode cX7_hasReading 43 = .ok (.ireturn, 1) := by decide +kernel
theorem dX8_init_0 : decode cX8_init 0 = .ok (.aload_n 0, 1) := by decide +kernel
theorem dX8_init_1 : decode cX8_init 1 = .ok (.invokespecial 1, 3) := by decide +kernel
theorem dX8_init_4 : decode cX8_init 4 = .ok (.aload_n 0, 1) := by decide +kernel
theorem dX8_init_5 : decode cX8_init 5 = .ok (.bipush 32, 2) := by decide +kernel
theorem dX8_init_7 : decode cX8_init 7 = .ok (.newarray .long, 2) := by decide +kernel
theorem dX8_init_9 : decode cX8_init 9 = .ok (.putfield 7, 3) := by decide +kernel
theorem dX8_init_12 : decode cX8_init 12 = .ok (.aload_n 0, 1) := by decide +kernel
theorem dX8_init_13 : decode cX8_init 13 = .ok (.bipush 40, 2) := by decide +kernel
theorem dX8_init_15 : decode cX8_init 15 = .ok (.putfield 13, 3) := by decide +kernel
theorem dX8_init_18 : decode cX8_init 18 = .ok (.aload_n 0, 1) := by decide +kernel
theorem dX8_init_19 : decode cX8_init 19 = .ok (.iconst (-1), 1) := by decide +kernel
theorem dX8_init_20 : decode cX8_init 20 = .ok (.putfield 17, 3) := by decide +kernel
theorem dX8_init_23 : decode cX8_init 23 = .ok (.aload_n 0, 1) := by decide +kernel
theorem dX8_init_24 : decode cX8_init 24 = .ok (.iconst (-1), 1) := by decide +kernel
theorem dX8_init_25 : decode cX8_init 25 = .ok (.putfield 20, 3) := by decide +kernel
theorem dX8_init_28 : decode cX8_init 28 = .ok (.aload_n 0, 1) := by decide +kernel
theorem dX8_init_29 : decode cX8_init 29 = .ok (.bipush 40, 2) := by decide +kernel
theorem dX8_init_31 : decode cX8_init 31 = .ok (.newarray .int, 2) := by decide +kernel
theorem dX8_init_33 : decode cX8_init 33 = .ok (.putfield 23, 3) := by decide +kernel
theorem dX8_init_36 : decode cX8_init 36 = .ok (.aload_n 0, 1) := by decide +kernel
theorem dX8_init_37 : decode cX8_init 37 = .ok (.bipush 40, 2) := by decide +kernel
theorem dX8_init_39 : decode cX8_init 39 = .ok (.newarray .int, 2) := by decide +kernel
theorem dX8_init_41 : decode cX8_init 41 = .ok (.putfield 27, 3) := by decide +kernel
theorem dX8_init_44 : decode cX8_init 44 = .ok (.aload_n 0, 1) := by decide +kernel
theorem dX8_init_45 : decode cX8_init 45 = .ok (.bipush 40, 2) := by decide +kernel
theorem dX8_init_47 : decode cX8_init 47 = .ok (.newarray .int, 2) := by decide +kernel
theorem dX8_init_49 : decode cX8_init 49 = .ok (.putfield 30, 3) := by decide +kernel
theorem dX8_init_52 : decode cX8_init 52 = .ok (.aload_n 0, 1) := by decide +kernel
theorem dX8_init_53 : decode cX8_init 53 = .ok (.bipush 40, 2) := by decide +kernel
theorem dX8_init_55 : decode cX8_init 55 = .ok (.newarray .int, 2) := by decide +kernel
theorem dX8_init_57 : decode cX8_init 57 = .ok (.putfield 33, 3) := by decide +kernel
theorem dX8_init_60 : decode cX8_init 60 = .ok (.aload_n 0, 1) := by decide +kernel
theorem dX8_init_61 : decode cX8_init 61 = .ok (.bipush 40, 2) := by decide +kernel
theorem dX8_init_63 : decode cX8_init 63 = .ok (.newarray .int, 2) := by decide +kernel
theorem dX8_init_65 : decode cX8_init 65 = .ok (.putfield 36, 3) := by decide +kernel
theorem dX8_init_68 : decode cX8_init 68 = .ok (.aload_n 0, 1) := by decide +kernel
theorem dX8_init_69 : decode cX8_init 69 = .ok (.bipush 40, 2) := by decide +kernel
theorem dX8_init_71 : decode cX8_init 71 = .ok (.newarray .int, 2) := by decide +kernel
theorem dX8_init_73 : decode cX8_init 73 = .ok (.putfield 39, 3) := by decide +kernel
theorem dX8_init_76 : decode cX8_init 76 = .ok (.aload_n 0, 1) := by decide +kernel
theorem dX8_init_77 : decode cX8_init 77 = .ok (.bipush 40, 2) := by decide +kernel
theorem dX8_init_79 : decode cX8_init 79 = .ok (.newarray .int, 2) := by decide +kernel
theorem dX8_init_81 : decode cX8_init 81 = .ok (.putfield 42, 3) := by decide +kernel
theorem dX8_init_84 : decode cX8_init 84 = .ok (.aload_n 0, 1) := by decide +kernel
theorem dX8_init_85 : decode cX8_init 85 = .ok (.bipush 6, 2) := by decide +kernel
theorem dX8_init_87 : decode cX8_init 87 = .ok (.newarray .int, 2) := by decide +kernel
theorem dX8_init_89 : decode cX8_init 89 = .ok (.putfield 45, 3) := by decide +kernel
theorem dX8_init_92 : decode cX8_init 92 = .ok (.aload_n 0, 1) := by decide +kernel
theorem dX8_init_93 : decode cX8_init 93 = .ok (.bipush 6, 2) := by decide +kernel
theorem dX8_init_95 : decode cX8_init 95 = .ok (.newarray .int, 2) := by decide +kernel
theorem dX8_init_97 : decode cX8_init 97 = .ok (.putfield 48, 3) := by decide +kernel
theorem dX8_init_100 : decode cX8_init 100 = .ok (.aload_n 0, 1) := by decide +kernel
theorem dX8_init_101 : decode cX8_init 101 = .ok (.bipush 6, 2) := by decide +kernel
theorem dX8_init_103 : decode cX8_init 103 = .ok (.newarray .int, 2) := by decide +kernel
theorem dX8_init_105 : decode cX8_init 105 = .ok (.putfield 51, 3) := by decide +kernel
theorem dX8_init_108 : decode cX8_init 108 = .ok (.aload_n 0, 1) := by decide +kernel
theorem dX8_init_109 : decode cX8_init 109 = .ok (.bipush 6, 2) := by decide +kernel
theorem dX8_init_111 : decode cX8_init 111 = .ok (.newarray .int, 2) := by decide +kernel
theorem dX8_init_113 : decode cX8_init 113 = .ok (.putfield 54, 3) := by decide +kernel
theorem dX8_init_116 : decode cX8_init 116 = .ok (.aload_n 0, 1) := by decide +kernel
theorem dX8_init_117 : decode cX8_init 117 = .ok (.bipush 60, 2) := by decide +kernel
theorem dX8_init_119 : decode cX8_init 119 = .ok (.putfield 57, 3) := by decide +kernel
theorem dX8_init_122 : decode cX8_init 122 = .ok (.aload_n 0, 1) := by decide +kernel
theorem dX8_init_123 : decode cX8_init 123 = .ok (.bipush 16, 2) := by decide +kernel
theorem dX8_init_125 : decode cX8_init 125 = .ok (.putfield 60, 3) := by decide +kernel
theorem dX8_init_128 : decode cX8_init 128 = .ok (.aload_n 0, 1) := by decide +kernel
theorem dX8_init_129 : decode cX8_init 129 = .ok (.bipush 40, 2) := by decide +kernel
theorem dX8_init_131 : decode cX8_init 131 = .ok (.newarray .int, 2) := by decide +kernel
theorem dX8_init_133 : decode cX8_init 133 = .ok (.putfield 63, 3) := by decide +kernel
theorem dX8_init_136 : decode cX8_init 136 = .ok (.aload_n 0, 1) := by decide +kernel
theorem dX8_init_137 : decode cX8_init 137 = .ok (.bipush 32, 2) := by decide +kernel
theorem dX8_init_139 : decode cX8_init 139 = .ok (.newarray .int, 2) := by decide +kernel
theorem dX8_init_141 : decode cX8_init 141 = .ok (.putfield 66, 3) := by decide +kernel
theorem dX8_init_144 : decode cX8_init 144 = .ok (.aload_n 0, 1) := by decide +kernel
theorem dX8_init_145 : decode cX8_init 145 = .ok (.bipush 32, 2) := by decide +kernel
theorem dX8_init_147 : decode cX8_init 147 = .ok (.newarray .int, 2) := by decide +kernel
theorem dX8_init_149 : decode cX8_init 149 = .ok (.putfield 69, 3) := by decide +kernel
theorem dX8_init_152 : decode cX8_init 152 = .ok (.aload_n 0, 1) := by decide +kernel
theorem dX8_init_153 : decode cX8_init 153 = .ok (.bipush 32, 2) := by decide +kernel
theorem dX8_init_155 : decode cX8_init 155 = .ok (.newarray .long, 2) := by decide +kernel
theorem dX8_init_157 : decode cX8_init 157 = .ok (.putfield 72, 3) := by decide +kernel
theorem dX8_init_160 : decode cX8_init 160 = .ok (.aload_n 0, 1) := by decide +kernel
theorem dX8_init_161 : decode cX8_init 161 = .ok (.sipush 1920, 3) := by decide +kernel
theorem dX8_init_164 : decode cX8_init 164 = .ok (.newarray .int, 2) := by decide +kernel
theorem dX8_init_166 : decode cX8_init 166 = .ok (.putfield 75, 3) := by decide +kernel
theorem dX8_init_169 : decode cX8_init 169 = .ok (.aload_n 0, 1) := by decide +kernel
theorem dX8_init_170 : decode cX8_init 170 = .ok (.sipush 6027, 3) := by decide +kernel
theorem dX8_init_173 : decode cX8_init 173 = .ok (.newarray .int, 2) := by decide +kernel
theorem dX8_init_175 : decode cX8_init 175 = .ok (.putfield 78, 3) := by decide +kernel
theorem dX8_init_178 : decode cX8_init 178 = .ok (.aload_n 0, 1) := by decide +kernel
theorem dX8_init_179 : decode cX8_init 179 = .ok (.iconst (-1), 1) := by decide +kernel
theorem dX8_init_180 : decode cX8_init 180 = .ok (.putfield 81, 3) := by decide +kernel
theorem dX8_init_183 : decode cX8_init 183 = .ok (.aload_n 0, 1) := by decide +kernel
theorem dX8_init_184 : decode cX8_init 184 = .ok (.iconst (-1), 1) := by decide +kernel
theorem dX8_init_185 : decode cX8_init 185 = .ok (.putfield 84, 3) := by decide +kernel
theorem dX8_init_188 : decode cX8_init 188 = .ok (.aload_n 0, 1) := by decide +kernel
theorem dX8_init_189 : decode cX8_init 189 = .ok (.bipush 40, 2) := by decide +kernel
theorem dX8_init_191 : decode cX8_init 191 = .ok (.newarray .int, 2) := by decide +kernel
theorem dX8_init_193 : decode cX8_init 193 = .ok (.putfield 87, 3) := by decide +kernel
theorem dX8_init_196 : decode cX8_init 196 = .ok (.aload_n 0, 1) := by decide +kernel
theorem dX8_init_197 : decode cX8_init 197 = .ok (.bipush 40, 2) := by decide +kernel
theorem dX8_init_199 : decode cX8_init 199 = .ok (.newarray .int, 2) := by decide +kernel
theorem dX8_init_201 : decode cX8_init 201 = .ok (.putfield 90, 3) := by decide +kernel
theorem dX8_init_204 : decode cX8_init 204 = .ok (.aload_n 0, 1) := by decide +kernel
theorem dX8_init_205 : decode cX8_init 205 = .ok (.bipush 40, 2) := by decide +kernel
theorem dX8_init_207 : decode cX8_init 207 = .ok (.newarray .boolean, 2) := by decide +kernel
theorem dX8_init_209 : decode cX8_init 209 = .ok (.putfield 93, 3) := by decide +kernel
theorem dX8_init_212 : decode cX8_init 212 = .ok (.iconst 0, 1) := by decide +kernel
theorem dX8_init_213 : decode cX8_init 213 = .ok (.istore_n 1, 1) := by decide +kernel
theorem dX8_init_214 : decode cX8_init 214 = .ok (.iload_n 1, 1) := by decide +kernel
theorem dX8_init_215 : decode cX8_init 215 = .ok (.bipush 6, 2) := by decide +kernel
theorem dX8_init_217 : decode cX8_init 217 = .ok (.if_icmp .ge 40, 3) := by decide +kernel
theorem dX8_init_220 : decode cX8_init 220 = .ok (.aload_n 0, 1) := by decide +kernel
theorem dX8_init_221 : decode cX8_init 221 = .ok (.getfield 45, 3) := by decide +kernel
theorem dX8_init_224 : decode cX8_init 224 = .ok (.iload_n 1, 1) := by decide +kernel
theorem dX8_init_225 : decode cX8_init 225 = .ok (.iconst 1, 1) := by decide +kernel
theorem dX8_init_226 : decode cX8_init 226 = .ok (.iastore, 1) := by decide +kernel
theorem dX8_init_227 : decode cX8_init 227 = .ok (.aload_n 0, 1) := by decide +kernel
theorem dX8_init_228 : decode cX8_init 228 = .ok (.getfield 48, 3) := by decide +kernel
theorem dX8_init_231 : decode cX8_init 231 = .ok (.iload_n 1, 1) := by decide +kernel
theorem dX8_init_232 : decode cX8_init 232 = .ok (.sipush 2000, 3) := by decide +kernel
theorem dX8_init_235 : decode cX8_init 235 = .ok (.iastore, 1) := by decide +kernel
theorem dX8_init_236 : decode cX8_init 236 = .ok (.aload_n 0, 1) := by decide +kernel
theorem dX8_init_237 : decode cX8_init 237 = .ok (.getfield 51, 3) := by decide +kernel
theorem dX8_init_240 : decode cX8_init 240 = .ok (.iload_n 1, 1) := by decide +kernel
theorem dX8_init_241 : decode cX8_init 241 = .ok (.iconst 1, 1) := by decide +kernel
theorem dX8_init_242 : decode cX8_init 242 = .ok (.iastore, 1) := by decide +kernel
theorem dX8_init_243 : decode cX8_init 243 = .ok (.aload_n 0, 1) := by decide +kernel
theorem dX8_init_244 : decode cX8_init 244 = .ok (.getfield 54, 3) := by decide +kernel
theorem dX8_init_247 : decode cX8_init 247 = .ok (.iload_n 1, 1) := by decide +kernel
theorem dX8_init_248 : decode cX8_init 248 = .ok (.bipush 50, 2) := by decide +kernel
theorem dX8_init_250 : decode cX8_init 250 = .ok (.iastore, 1) := by decide +kernel
theorem dX8_init_251 : decode cX8_init 251 = .ok (.iinc 1 1, 3) := by decide +kernel
theorem dX8_init_254 : decode cX8_init 254 = .ok (.goto (-40), 3) := by decide +kernel
theorem dX8_init_257 : decode cX8_init 257 = .ok (.aload_n 0, 1) := by decide +kernel
theorem dX8_init_258 : decode cX8_init 258 = .ok (.invokevirtual 97, 3) := by decide +kernel
theorem dX8_init_261 : decode cX8_init 261 = .ok (.return_, 1) := by decide +kernel
theorem dX8_forget_0 : decode cX8_forget 0 = .ok (.iconst 0, 1) := by decide +kernel
theorem dX8_forget_1 : decode cX8_forget 1 = .ok (.istore_n 1, 1) := by decide +kernel
theorem dX8_forget_2 : decode cX8_forget 2 = .ok (.iload_n 1, 1) := by decide +kernel
theorem dX8_forget_3 : decode cX8_forget 3 = .ok (.bipush 40, 2) := by decide +kernel
theorem dX8_forget_5 : decode cX8_forget 5 = .ok (.if_icmp .ge 16, 3) := by decide +kernel
theorem dX8_forget_8 : decode cX8_forget 8 = .ok (.aload_n 0, 1) := by decide +kernel
theorem dX8_forget_9 : decode cX8_forget 9 = .ok (.getfield 42, 3) := by decide +kernel
theorem dX8_forget_12 : decode cX8_forget 12 = .ok (.iload_n 1, 1) := by decide +kernel
theorem dX8_forget_13 : decode cX8_forget 13 = .ok (.iconst (-1), 1) := by decide +kernel
theorem dX8_forget_14 : decode cX8_forget 14 = .ok (.iastore, 1) := by decide +kernel
theorem dX8_forget_15 : decode cX8_forget 15 = .ok (.iinc 1 1, 3) := by decide +kernel
theorem dX8_forget_18 : decode cX8_forget 18 = .ok (.goto (-16), 3) := by decide +kernel
theorem dX8_forget_21 : decode cX8_forget 21 = .ok (.return_, 1) := by decide +kernel
theorem dX8_in_0 : decode cX8_in 0 = .ok (.iload_n 0, 1) := by decide +kernel
theorem dX8_in_1 : decode cX8_in 1 = .ok (.iload_n 1, 1) := by decide +kernel
theorem dX8_in_2 : decode cX8_in 2 = .ok (.if_icmp .lt 12, 3) := by decide +kernel
theorem dX8_in_5 : decode cX8_in 5 = .ok (.iload_n 0, 1) := by decide +kernel
theorem dX8_in_6 : decode cX8_in 6 = .ok (.iload_n 2, 1) := by decide +kernel
theorem dX8_in_7 : decode cX8_in 7 = .ok (.if_icmp .gt 7, 3) := by decide +kernel
theorem dX8_in_10 : decode cX8_in 10 = .ok (.iconst 1, 1) := by decide +kernel
theorem dX8_in_11 : decode cX8_in 11 = .ok (.goto 4, 3) := by decide +kernel
theorem dX8_in_14 : decode cX8_in 14 = .ok (.iconst 0, 1) := by decide +kernel
theorem dX8_in_15 : decode cX8_in 15 = .ok (.ireturn, 1) := by decide +kernel
theorem dX8_isBlack_0 : decode cX8_isBlack 0 = .ok (.iload_n 1, 1) := by decide +kernel
theorem dX8_isBlack_1 : decode cX8_isBlack 1 = .ok (.iconst 0, 1) := by decide +kernel
theorem dX8_isBlack_2 : decode cX8_isBlack 2 = .ok (.bipush 59, 2) := by decide +kernel
theorem dX8_isBlack_4 : decode cX8_isBlack 4 = .ok (.invokestatic 100, 3) := by decide +kernel
theorem dX8_isBlack_7 : decode cX8_isBlack 7 = .ok (.ifCond .eq 32, 3) := by decide +kernel
theorem dX8_isBlack_10 : decode cX8_isBlack 10 = .ok (.iload_n 2, 1) := by decide +kernel
theorem dX8_isBlack_11 : decode cX8_isBlack 11 = .ok (.iconst 0, 1) := by decide +kernel
theorem dX8_isBlack_12 : decode cX8_isBlack 12 = .ok (.bipush 31, 2) := by decide +kernel
theorem dX8_isBlack_14 : decode cX8_isBlack 14 = .ok (.invokestatic 100, 3) := by decide +kernel
theorem dX8_isBlack_17 : decode cX8_isBlack 17 = .ok (.ifCond .eq 22, 3) := by decide +kernel
theorem dX8_isBlack_20 : decode cX8_isBlack 20 = .ok (.aload_n 0, 1) := by decide +kernel
theorem dX8_isBlack_21 : decode cX8_isBlack 21 = .ok (.getfield 7, 3) := by decide +kernel
theorem dX8_isBlack_24 : decode cX8_isBlack 24 = .ok (.iload_n 2, 1) := by decide +kernel
theorem dX8_isBlack_25 : decode cX8_isBlack 25 = .ok (.laload, 1) := by decide +kernel
theorem dX8_isBlack_26 : decode cX8_isBlack 26 = .ok (.iload_n 1, 1) := by decide +kernel
theorem dX8_isBlack_27 : decode cX8_isBlack 27 = .ok (.lshr, 1) := by decide +kernel
theorem dX8_isBlack_28 : decode cX8_isBlack 28 = .ok (.lconst 1, 1) := by decide +kernel
theorem dX8_isBlack_29 : decode cX8_isBlack 29 = .ok (.land, 1) := by decide +kernel
theorem dX8_isBlack_30 : decode cX8_isBlack 30 = .ok (.lconst 1, 1) := by decide +kernel
theorem dX8_isBlack_31 : decode cX8_isBlack 31 = .ok (.lcmp, 1) := by decide +kernel
theorem dX8_isBlack_32 : decode cX8_isBlack 32 = .ok (.ifCond .ne 7, 3) := by decide +kernel
theorem dX8_isBlack_35 : decode cX8_isBlack 35 = .ok (.iconst 1, 1) := by decide +kernel
theorem dX8_isBlack_36 : decode cX8_isBlack 36 = .ok (.goto 4, 3) := by decide +kernel
theorem dX8_isBlack_39 : decode cX8_isBlack 39 = .ok (.iconst 0, 1) := by decide +kernel
theorem dX8_isBlack_40 : decode cX8_isBlack 40 = .ok (.ireturn, 1) := by decide +kernel
theorem dX8_ones_0 : decode cX8_ones 0 = .ok (.iconst 0, 1) := by decide +kernel
theorem dX8_ones_1 : decode cX8_ones 1 = .ok (.istore_n 2, 1) := by decide +kernel
theorem dX8_ones_2 : decode cX8_ones 2 = .ok (.iconst 0, 1) := by decide +kernel
theorem dX8_ones_3 : decode cX8_ones 3 = .ok (.istore_n 3, 1) := by decide +kernel
theorem dX8_ones_4 : decode cX8_ones 4 = .ok (.iload_n 3, 1) := by decide +kernel
theorem dX8_ones_5 : decode cX8_ones 5 = .ok (.bipush 60, 2) := by decide +kernel
theorem dX8_ones_7 : decode cX8_ones 7 = .ok (.if_icmp .ge 18, 3) := by decide +kernel
theorem dX8_ones_10 : decode cX8_ones 10 = .ok (.iload_n 2, 1) := by decide +kernel
theorem dX8_ones_11 : decode cX8_ones 11 = .ok (.lload_n 0, 1) := by decide +kernel
theorem dX8_ones_12 : decode cX8_ones 12 = .ok (.iload_n 3, 1) := by decide +kernel
theorem dX8_ones_13 : decode cX8_ones 13 = .ok (.lshr, 1) := by decide +kernel
theorem dX8_ones_14 : decode cX8_ones 14 = .ok (.lconst 1, 1) := by decide +kernel
theorem dX8_ones_15 : decode cX8_ones 15 = .ok (.land, 1) := by decide +kernel
theorem dX8_ones_16 : decode cX8_ones 16 = .ok (.l2i, 1) := by decide +kernel
theorem dX8_ones_17 : decode cX8_ones 17 = .ok (.iadd, 1) := by decide +kernel
theorem dX8_ones_18 : decode cX8_ones 18 = .ok (.istore_n 2, 1) := by decide +kernel
theorem dX8_ones_19 : decode cX8_ones 19 = .ok (.iinc 3 1, 3) := by decide +kernel
theorem dX8_ones_22 : decode cX8_ones 22 = .ok (.goto (-18), 3) := by decide +kernel
theorem dX8_ones_25 : decode cX8_ones 25 = .ok (.iload_n 2, 1) := by decide +kernel
theorem dX8_ones_26 : decode cX8_ones 26 = .ok (.ireturn, 1) := by decide +kernel
theorem dX8_row_0 : decode cX8_row 0 = .ok (.iload_n 1, 1) := by decide +kernel
theorem dX8_row_1 : decode cX8_row 1 = .ok (.iconst 0, 1) := by decide +kernel
theorem dX8_row_2 : decode cX8_row 2 = .ok (.bipush 31, 2) := by decide +kernel
theorem dX8_row_4 : decode cX8_row 4 = .ok (.invokestatic 100, 3) := by decide +kernel
theorem dX8_row_7 : decode cX8_row 7 = .ok (.ifCond .eq 12, 3) := by decide +kernel
theorem dX8_row_10 : decode cX8_row 10 = .ok (.lload_n 2, 1) := by decide +kernel
theorem dX8_row_11 : decode cX8_row 11 = .ok (.bipush 60, 2) := by decide +kernel
theorem dX8_row_13 : decode cX8_row 13 = .ok (.lshr, 1) := by decide +kernel
theorem dX8_row_14 : decode cX8_row 14 = .ok (.lconst 0, 1) := by decide +kernel
theorem dX8_row_15 : decode cX8_row 15 = .ok (.lcmp, 1) := by decide +kernel
theorem dX8_row_16 : decode cX8_row 16 = .ok (.ifCond .eq 6, 3) := by decide +kernel
theorem dX8_row_19 : decode cX8_row 19 = .ok (.bipush (-2), 2) := by decide +kernel
theorem dX8_row_21 : decode cX8_row 21 = .ok (.ireturn, 1) := by decide +kernel
theorem dX8_row_22 : decode cX8_row 22 = .ok (.aload_n 0, 1) := by decide +kernel
theorem dX8_row_23 : decode cX8_row 23 = .ok (.getfield 7, 3) := by decide +kernel
theorem dX8_row_26 : decode cX8_row 26 = .ok (.iload_n 1, 1) := by decide +kernel
theorem dX8_row_27 : decode cX8_row 27 = .ok (.lload_n 2, 1) := by decide +kernel
theorem dX8_row_28 : decode cX8_row 28 = .ok (.lastore, 1) := by decide +kernel
theorem dX8_row_29 : decode cX8_row 29 = .ok (.aload_n 0, 1) := by decide +kernel
theorem dX8_row_30 : decode cX8_row 30 = .ok (.iconst (-1), 1) := by decide +kernel
theorem dX8_row_31 : decode cX8_row 31 = .ok (.putfield 17, 3) := by decide +kernel
theorem dX8_row_34 : decode cX8_row 34 = .ok (.lload_n 2, 1) := by decide +kernel
theorem dX8_row_35 : decode cX8_row 35 = .ok (.invokestatic 104, 3) := by decide +kernel
theorem dX8_row_38 : decode cX8_row 38 = .ok (.ireturn, 1) := by decide +kernel
theorem dX8_ink_0 : decode cX8_ink 0 = .ok (.iload_n 3, 1) := by decide +kernel
theorem dX8_ink_1 : decode cX8_ink 1 = .ok (.iconst 1, 1) := by decide +kernel
theorem dX8_ink_2 : decode cX8_ink 2 = .ok (.bipush 60, 2) := by decide +kernel
theorem dX8_ink_4 : decode cX8_ink 4 = .ok (.invokestatic 100, 3) := by decide +kernel
theorem dX8_ink_7 : decode cX8_ink 7 = .ok (.ifCond .eq 39, 3) := by decide +kernel
theorem dX8_ink_10 : decode cX8_ink 10 = .ok (.iload 4, 2) := by decide +kernel
theorem dX8_ink_12 : decode cX8_ink 12 = .ok (.iconst 1, 1) := by decide +kernel
theorem dX8_ink_13 : decode cX8_ink 13 = .ok (.bipush 32, 2) := by decide +kernel
theorem dX8_ink_15 : decode cX8_ink 15 = .ok (.invokestatic 100, 3) := by decide +kernel
theorem dX8_ink_18 : decode cX8_ink 18 = .ok (.ifCond .eq 28, 3) := by decide +kernel
theorem dX8_ink_21 : decode cX8_ink 21 = .ok (.iload_n 1, 1) := by decide +kernel
theorem dX8_ink_22 : decode cX8_ink 22 = .ok (.iconst 0, 1) := by decide +kernel
theorem dX8_ink_23 : decode cX8_ink 23 = .ok (.bipush 60, 2) := by decide +kernel
theorem dX8_ink_25 : decode cX8_ink 25 = .ok (.iload_n 3, 1) := by decide +kernel
theorem dX8_ink_26 : decode cX8_ink 26 = .ok (.isub, 1) := by decide +kernel
theorem dX8_ink_27 : decode cX8_ink 27 = .ok (.invokestatic 100, 3) := by decide +kernel
theorem dX8_ink_30 : decode cX8_ink 30 = .ok (.ifCond .eq 16, 3) := by decide +kernel
theorem dX8_ink_33 : decode cX8_ink 33 = .ok (.iload_n 2, 1) := by decide +kernel
theorem dX8_ink_34 : decode cX8_ink 34 = .ok (.iconst 0, 1) := by decide +kernel
theorem dX8_ink_35 : decode cX8_ink 35 = .ok (.bipush 32, 2) := by decide +kernel
theorem dX8_ink_37 : decode cX8_ink 37 = .ok (.iload 4, 2) := by decide +kernel
theorem dX8_ink_39 : decode cX8_ink 39 = .ok (.isub, 1) := by decide +kernel
theorem dX8_ink_40 : decode cX8_ink 40 = .ok (.invokestatic 100, 3) := by decide +kernel
theorem dX8_ink_43 : decode cX8_ink 43 = .ok (.ifCond .ne 6, 3) := by decide +kernel
theorem dX8_ink_46 : decode cX8_ink 46 = .ok (.bipush (-2), 2) := by decide +kernel
theorem dX8_ink_48 : decode cX8_ink 48 = .ok (.ireturn, 1) := by decide +kernel
theorem dX8_ink_49 : decode cX8_ink 49 = .ok (.iconst 0, 1) := by decide +kernel
theorem dX8_ink_50 : decode cX8_ink 50 = .ok (.istore 6, 2) := by decide +kernel
theorem dX8_ink_52 : decode cX8_ink 52 = .ok (.iload_n 2, 1) := by decide +kernel
theorem dX8_ink_53 : decode cX8_ink 53 = .ok (.istore 7, 2) := by decide +kernel
theorem dX8_ink_55 : decode cX8_ink 55 = .ok (.iload 7, 2) := by decide +kernel
theorem dX8_ink_57 : decode cX8_ink 57 = .ok (.iload_n 2, 1) := by decide +kernel
theorem dX8_ink_58 : decode cX8_ink 58 = .ok (.iload 4, 2) := by decide +kernel
theorem dX8_ink_60 : decode cX8_ink 60 = .ok (.iadd, 1) := by decide +kernel
theorem dX8_ink_61 : decode cX8_ink 61 = .ok (.if_icmp .ge 56, 3) := by decide +kernel
theorem dX8_ink_64 : decode cX8_ink 64 = .ok (.iload_n 1, 1) := by decide +kernel
theorem dX8_ink_65 : decode cX8_ink 65 = .ok (.istore 8, 2) := by decide +kernel
theorem dX8_ink_67 : decode cX8_ink 67 = .ok (.iload 8, 2) := by decide +kernel
theorem dX8_ink_69 : decode cX8_ink 69 = .ok (.iload_n 1, 1) := by decide +kernel
theorem dX8_ink_70 : decode cX8_ink 70 = .ok (.iload_n 3, 1) := by decide +kernel
theorem dX8_ink_71 : decode cX8_ink 71 = .ok (.iadd, 1) := by decide +kernel
theorem dX8_ink_72 : decode cX8_ink 72 = .ok (.if_icmp .ge 39, 3) := by decide +kernel
theorem dX8_ink_75 : decode cX8_ink 75 = .ok (.aload_n 0, 1) := by decide +kernel
theorem dX8_ink_76 : decode cX8_ink 76 = .ok (.iload 8, 2) := by decide +kernel
theorem dX8_ink_78 : decode cX8_ink 78 = .ok (.iload 7, 2) := by decide +kernel
theorem dX8_ink_80 : decode cX8_ink 80 = .ok (.invokevirtual 108, 3) := by decide +kernel
theorem dX8_ink_83 : decode cX8_ink 83 = .ok (.iload 5, 2) := by decide +kernel
theorem dX8_ink_85 : decode cX8_ink 85 = .ok (.if_icmp .eq 20, 3) := by decide +kernel
theorem dX8_ink_88 : decode cX8_ink 88 = .ok (.aload_n 0, 1) := by decide +kernel
theorem dX8_ink_89 : decode cX8_ink 89 = .ok (.getfield 7, 3) := by decide +kernel
theorem dX8_ink_92 : decode cX8_ink 92 = .ok (.iload 7, 2) := by decide +kernel
theorem dX8_ink_94 : decode cX8_ink 94 = .ok (.dup2, 1) := by decide +kernel
theorem dX8_ink_95 : decode cX8_ink 95 = .ok (.laload, 1) := by decide +kernel
theorem dX8_ink_96 : decode cX8_ink 96 = .ok (.lconst 1, 1) := by decide +kernel
theorem dX8_ink_97 : decode cX8_ink 97 = .ok (.iload 8, 2) := by decide +kernel
theorem dX8_ink_99 : decode cX8_ink 99 = .ok (.lshl, 1) := by decide +kernel
theorem dX8_ink_100 : decode cX8_ink 100 = .ok (.lxor, 1) := by decide +kernel
theorem dX8_ink_101 : decode cX8_ink 101 = .ok (.lastore, 1) := by decide +kernel
theorem dX8_ink_102 : decode cX8_ink 102 = .ok (.iinc 6 1, 3) := by decide +kernel
theorem dX8_ink_105 : decode cX8_ink 105 = .ok (.iinc 8 1, 3) := by decide +kernel
theorem dX8_ink_108 : decode cX8_ink 108 = .ok (.goto (-41), 3) := by decide +kernel
theorem dX8_ink_111 : decode cX8_ink 111 = .ok (.iinc 7 1, 3) := by decide +kernel
theorem dX8_ink_114 : decode cX8_ink 114 = .ok (.goto (-59), 3) := by decide +kernel
theorem dX8_ink_117 : decode cX8_ink 117 = .ok (.aload_n 0, 1) := by decide +kernel
theorem dX8_ink_118 : decode cX8_ink 118 = .ok (.iconst (-1), 1) := by decide +kernel
theorem dX8_ink_119 : decode cX8_ink 119 = .ok (.putfield 17, 3) := by decide +kernel
theorem dX8_ink_122 : decode cX8_ink 122 = .ok (.iload 6, 2) := by decide +kernel
theorem dX8_ink_124 : decode cX8_ink 124 = .ok (.ireturn, 1) := by decide +kernel
theorem dX8_run_0 : decode cX8_run 0 = .ok (.iload_n 1, 1) := by decide +kernel
theorem dX8_run_1 : decode cX8_run 1 = .ok (.bipush 10, 2) := by decide +kernel
theorem dX8_run_3 : decode cX8_run 3 = .ok (.bipush 60, 2) := by decide +kernel
theorem dX8_run_5 : decode cX8_run 5 = .ok (.invokestatic 100, 3) := by decide +kernel
theorem dX8_run_8 : decode cX8_run 8 = .ok (.ifCond .ne 6, 3) := by decide +kernel
theorem dX8_run_11 : decode cX8_run 11 = .ok (.bipush (-2), 2) := by decide +kernel
theorem dX8_run_13 : decode cX8_run 13 = .ok (.ireturn, 1) := by decide +kernel
theorem dX8_run_14 : decode cX8_run 14 = .ok (.aload_n 0, 1) := by decide +kernel
theorem dX8_run_15 : decode cX8_run 15 = .ok (.getfield 13, 3) := by decide +kernel
theorem dX8_run_18 : decode cX8_run 18 = .ok (.istore_n 2, 1) := by decide +kernel
theorem dX8_run_19 : decode cX8_run 19 = .ok (.aload_n 0, 1) := by decide +kernel
theorem dX8_run_20 : decode cX8_run 20 = .ok (.iload_n 1, 1) := by decide +kernel
theorem dX8_run_21 : decode cX8_run 21 = .ok (.putfield 13, 3) := by decide +kernel
theorem dX8_run_24 : decode cX8_run 24 = .ok (.aload_n 0, 1) := by decide +kernel
theorem dX8_run_25 : decode cX8_run 25 = .ok (.iconst (-1), 1) := by decide +kernel
theorem dX8_run_26 : decode cX8_run 26 = .ok (.putfield 17, 3) := by decide +kernel
theorem dX8_run_29 : decode cX8_run 29 = .ok (.iload_n 2, 1) := by decide +kernel
theorem dX8_run_30 : decode cX8_run 30 = .ok (.ireturn, 1) := by decide +kernel
theorem dX8_dot_0 : decode cX8_dot 0 = .ok (.iload_n 1, 1) := by decide +kernel
theorem dX8_dot_1 : decode cX8_dot 1 = .ok (.iconst 0, 1) := by decide +kernel
theorem dX8_dot_2 : decode cX8_dot 2 = .ok (.bipush 59, 2) := by decide +kernel
theorem dX8_dot_4 : decode cX8_dot 4 = .ok (.invokestatic 100, 3) := by decide +kernel
theorem dX8_dot_7 : decode cX8_dot 7 = .ok (.ifCond .eq 13, 3) := by decide +kernel
theorem dX8_dot_10 : decode cX8_dot 10 = .ok (.iload_n 2, 1) := by decide +kernel
theorem dX8_dot_11 : decode cX8_dot 11 = .ok (.iconst 0, 1) := by decide +kernel
theorem dX8_dot_12 : decode cX8_dot 12 = .ok (.bipush 31, 2) := by decide +kernel
theorem dX8_dot_14 : decode cX8_dot 14 = .ok (.invokestatic 100, 3) := by decide +kernel
theorem dX8_dot_17 : decode cX8_dot 17 = .ok (.ifCond .ne 8, 3) := by decide +kernel
theorem dX8_dot_20 : decode cX8_dot 20 = .ok (.bipush (-2), 2) := by decide +kernel
theorem dX8_dot_22 : decode cX8_dot 22 = .ok (.goto 17, 3) := by decide +kernel
theorem dX8_dot_25 : decode cX8_dot 25 = .ok (.aload_n 0, 1) := by decide +kernel
theorem dX8_dot_26 : decode cX8_dot 26 = .ok (.iload_n 1, 1) := by decide +kernel
theorem dX8_dot_27 : decode cX8_dot 27 = .ok (.iload_n 2, 1) := by decide +kernel
theorem dX8_dot_28 : decode cX8_dot 28 = .ok (.invokevirtual 108, 3) := by decide +kernel
theorem dX8_dot_31 : decode cX8_dot 31 = .ok (.ifCond .eq 7, 3) := by decide +kernel
theorem dX8_dot_34 : decode cX8_dot 34 = .ok (.iconst 1, 1) := by decide +kernel
theorem dX8_dot_35 : decode cX8_dot 35 = .ok (.goto 4, 3) := by decide +kernel
theorem dX8_dot_38 : decode cX8_dot 38 = .ok (.iconst 0, 1) := by decide +kernel
theorem dX8_dot_39 : decode cX8_dot 39 = .ok (.ireturn, 1) := by decide +kernel
theorem dX8_isRule_0 : decode cX8_isRule 0 = .ok (.iconst 0, 1) := by decide +kernel
theorem dX8_isRule_1 : decode cX8_isRule 1 = .ok (.istore_n 2, 1) := by decide +kernel
theorem dX8_isRule_2 : decode cX8_isRule 2 = .ok (.iconst 0, 1) := by decide +kernel
theorem dX8_isRule_3 : decode cX8_isRule 3 = .ok (.istore_n 3, 1) := by decide +kernel
theorem dX8_isRule_4 : decode cX8_isRule 4 = .ok (.iconst 0, 1) := by decide +kernel
theorem dX8_isRule_5 : decode cX8_isRule 5 = .ok (.istore 4, 2) := by decide +kernel
theorem dX8_isRule_7 : decode cX8_isRule 7 = .ok (.iload 4, 2) := by decide +kernel
theorem dX8_isRule_9 : decode cX8_isRule 9 = .ok (.bipush 60, 2) := by decide +kernel
theorem dX8_isRule_11 : decode cX8_isRule 11 = .ok (.if_icmp .ge 45, 3) := by decide +kernel
theorem dX8_isRule_14 : decode cX8_isRule 14 = .ok (.aload_n 0, 1) := by decide +kernel
theorem dX8_isRule_15 : decode cX8_isRule 15 = .ok (.iload 4, 2) := by decide +kernel
theorem dX8_isRule_17 : decode cX8_isRule 17 = .ok (.iload_n 1, 1) := by decide +kernel
theorem dX8_isRule_18 : decode cX8_isRule 18 = .ok (.invokevirtual 108, 3) := by decide +kernel
theorem dX8_isRule_21 : decode cX8_isRule 21 = .ok (.ifCond .eq 9, 3) := by decide +kernel
theorem dX8_isRule_24 : decode cX8_isRule 24 = .ok (.iload_n 2, 1) := by decide +kernel
theorem dX8_isRule_25 : decode cX8_isRule 25 = .ok (.iconst 1, 1) := by decide +kernel
theorem dX8_isRule_26 : decode cX8_isRule 26 = .ok (.iadd, 1) := by decide +kernel
theorem dX8_isRule_27 : decode cX8_isRule 27 = .ok (.goto 4, 3) := by decide +kernel
theorem dX8_isRule_30 : decode cX8_isRule 30 = .ok (.iconst 0, 1) := by decide +kernel
theorem dX8_isRule_31 : decode cX8_isRule 31 = .ok (.istore_n 2, 1) := by decide +kernel
theorem dX8_isRule_32 : decode cX8_isRule 32 = .ok (.iload_n 3, 1) := by decide +kernel
theorem dX8_isRule_33 : decode cX8_isRule 33 = .ok (.ifCond .ne 11, 3) := by decide +kernel
theorem dX8_isRule_36 : decode cX8_isRule 36 = .ok (.iload_n 2, 1) := by decide +kernel
theorem dX8_isRule_37 : decode cX8_isRule 37 = .ok (.aload_n 0, 1) := by decide +kernel
theorem dX8_isRule_38 : decode cX8_isRule 38 = .ok (.getfield 13, 3) := by decide +kernel
theorem dX8_isRule_41 : decode cX8_isRule 41 = .ok (.if_icmp .lt 7, 3) := by decide +kernel
theorem dX8_isRule_44 : decode cX8_isRule 44 = .ok (.iconst 1, 1) := by decide +kernel
theorem dX8_isRule_45 : decode cX8_isRule 45 = .ok (.goto 4, 3) := by decide +kernel
theorem dX8_isRule_48 : decode cX8_isRule 48 = .ok (.iconst 0, 1) := by decide +kernel
theorem dX8_isRule_49 : decode cX8_isRule 49 = .ok (.istore_n 3, 1) := by decide +kernel
theorem dX8_isRule_50 : decode cX8_isRule 50 = .ok (.iinc 4 1, 3) := by decide +kernel
theorem dX8_isRule_53 : decode cX8_isRule 53 = .ok (.goto (-46), 3) := by decide +kernel
theorem dX8_isRule_56 : decode cX8_isRule 56 = .ok (.iload_n 3, 1) := by decide +kernel
theorem dX8_isRule_57 : decode cX8_isRule 57 = .ok (.ireturn, 1) := by decide +kernel
theorem dX8_findLines_0 : decode cX8_findLines 0 = .ok (.aload_n 0, 1) := by decide +kernel
theorem dX8_findLines_1 : decode cX8_findLines 1 = .ok (.iconst 0, 1) := by decide +kernel
theorem dX8_findLines_2 : decode cX8_findLines 2 = .ok (.putfield 112, 3) := by decide +kernel
theorem dX8_findLines_5 : decode cX8_findLines 5 = .ok (.iconst 0, 1) := by decide +kernel
theorem dX8_findLines_6 : decode cX8_findLines 6 = .ok (.istore_n 1, 1) := by decide +kernel
theorem dX8_findLines_7 : decode cX8_findLines 7 = .ok (.iload_n 1, 1) := by decide +kernel
theorem dX8_findLines_8 : decode cX8_findLines 8 = .ok (.bipush 32, 2) := by decide +kernel
theorem dX8_findLines_10 : decode cX8_findLines 10 = .ok (.if_icmp .ge 77, 3) := by decide +kernel
theorem dX8_findLines_13 : decode cX8_findLines 13 = .ok (.aload_n 0, 1) := by decide +kernel
theorem dX8_findLines_14 : decode cX8_findLines 14 = .ok (.iload_n 1, 1) := by decide +kernel
theorem dX8_findLines_15 : decode cX8_findLines 15 = .ok (.invokevirtual 115, 3) := by decide +kernel
theorem dX8_findLines_18 : decode cX8_findLines 18 = .ok (.ifCond .eq 63, 3) := by decide +kernel
theorem dX8_findLines_21 : decode cX8_findLines 21 = .ok (.iload_n 1, 1) := by decide +kernel
theorem dX8_findLines_22 : decode cX8_findLines 22 = .ok (.ifCond .eq 27, 3) := by decide +kernel
theorem dX8_findLines_25 : decode cX8_findLines 25 = .ok (.aload_n 0, 1) := by decide +kernel
theorem dX8_findLines_26 : decode cX8_findLines 26 = .ok (.getfield 112, 3) := by decide +kernel
theorem dX8_findLines_29 : decode cX8_findLines 29 = .ok (.ifCond .eq 20, 3) := by decide +kernel
theorem dX8_findLines_32 : decode cX8_findLines 32 = .ok (.aload_n 0, 1) := by decide +kernel
theorem dX8_findLines_33 : decode cX8_findLines 33 = .ok (.getfield 69, 3) := by decide +kernel
theorem dX8_findLines_36 : decode cX8_findLines 36 = .ok (.aload_n 0, 1) := by decide +kernel
theorem dX8_findLines_37 : decode cX8_findLines 37 = .ok (.getfield 112, 3) := by decide +kernel
theorem dX8_findLines_40 : decode cX8_findLines 40 = .ok (.iconst 1, 1) := by decide +kernel
theorem dX8_findLines_41 : decode cX8_findLines 41 = .ok (.isub, 1) := by decide +kernel
theorem dX8_findLines_42 : decode cX8_findLines 42 = .ok (.iaload, 1) := by decide +kernel
theorem dX8_findLines_43 : decode cX8_findLines 43 = .ok (.iload_n 1, 1) := by decide +kernel
theorem dX8_findLines_44 : decode cX8_findLines 44 = .ok (.iconst 1, 1) := by decide +kernel
theorem dX8_findLines_45 : decode cX8_findLines 45 = .ok (.isub, 1) := by decide +kernel
theorem dX8_findLines_46 : decode cX8_findLines 46 = .ok (.if_icmp .eq 23, 3) := by decide +kernel
theorem dX8_findLines_49 : decode cX8_findLines 49 = .ok (.aload_n 0, 1) := by decide +kernel
theorem dX8_findLines_50 : decode cX8_findLines 50 = .ok (.getfield 66, 3) := by decide +kernel
theorem dX8_findLines_53 : decode cX8_findLines 53 = .ok (.aload_n 0, 1) := by decide +kernel
theorem dX8_findLines_54 : decode cX8_findLines 54 = .ok (.getfield 112, 3) := by decide +kernel
theorem dX8_findLines_57 : decode cX8_findLines 57 = .ok (.iload_n 1, 1) := by decide +kernel
theorem dX8_findLines_58 : decode cX8_findLines 58 = .ok (.iastore, 1) := by decide +kernel
theorem dX8_findLines_59 : decode cX8_findLines 59 = .ok (.aload_n 0, 1) := by decide +kernel
theorem dX8_findLines_60 : decode cX8_findLines 60 = .ok (.dup, 1) := by decide +kernel
theorem dX8_findLines_61 : decode cX8_findLines 61 = .ok (.getfield 112, 3) := by decide +kernel
theorem dX8_findLines_64 : decode cX8_findLines 64 = .ok (.iconst 1, 1) := by decide +kernel
theorem dX8_findLines_65 : decode cX8_findLines 65 = .ok (.iadd, 1) := by decide +kernel
theorem dX8_findLines_66 : decode cX8_findLines 66 = .ok (.putfield 112, 3) := by decide +kernel
theorem dX8_findLines_69 : decode cX8_findLines 69 = .ok (.aload_n 0, 1) := by decide +kernel
theorem dX8_findLines_70 : decode cX8_findLines 70 = .ok (.getfield 69, 3) := by decide +kernel
theorem dX8_findLines_73 : decode cX8_findLines 73 = .ok (.aload_n 0, 1) := by decide +kernel
theorem dX8_findLines_74 : decode cX8_findLines 74 = .ok (.getfield 112, 3) := by decide +kernel
theorem dX8_findLines_77 : decode cX8_findLines 77 = .ok (.iconst 1, 1) := by decide +kernel
theorem dX8_findLines_78 : decode cX8_findLines 78 = .ok (.isub, 1) := by decide +kernel
theorem dX8_findLines_79 : decode cX8_findLines 79 = .ok (.iload_n 1, 1) := by decide +kernel
theorem dX8_findLines_80 : decode cX8_findLines 80 = .ok (.iastore, 1) := by decide +kernel
theorem dX8_findLines_81 : decode cX8_findLines 81 = .ok (.iinc 1 1, 3) := by decide +kernel
theorem dX8_findLines_84 : decode cX8_findLines 84 = .ok (.goto (-77), 3) := by decide +kernel
theorem dX8_findLines_87 : decode cX8_findLines 87 = .ok (.return_, 1) := by decide +kernel
theorem dX8_lines_0 : decode cX8_lines 0 = .ok (.aload_n 0, 1) := by decide +kernel
theorem dX8_lines_1 : decode cX8_lines 1 = .ok (.invokevirtual 119, 3) := by decide +kernel
theorem dX8_lines_4 : decode cX8_lines 4 = .ok (.aload_n 0, 1) := by decide +kernel
theorem dX8_lines_5 : decode cX8_lines 5 = .ok (.getfield 112, 3) := by decide +kernel
theorem dX8_lines_8 : decode cX8_lines 8 = .ok (.ireturn, 1) := by decide +kernel
theorem dX8_findStaff_0 : decode cX8_findStaff 0 = .ok (.aload_n 0, 1) := by decide +kernel
theorem dX8_findStaff_1 : decode cX8_findStaff 1 = .ok (.invokevirtual 119, 3) := by decide +kernel
theorem dX8_findStaff_4 : decode cX8_findStaff 4 = .ok (.iconst 0, 1) := by decide +kernel
theorem dX8_findStaff_5 : decode cX8_findStaff 5 = .ok (.istore_n 1, 1) := by decide +kernel
theorem dX8_findStaff_6 : decode cX8_findStaff 6 = .ok (.iload_n 1, 1) := by decide +kernel
theorem dX8_findStaff_7 : decode cX8_findStaff 7 = .ok (.iconst 4, 1) := by decide +kernel
theorem dX8_findStaff_8 : decode cX8_findStaff 8 = .ok (.iadd, 1) := by decide +kernel
theorem dX8_findStaff_9 : decode cX8_findStaff 9 = .ok (.aload_n 0, 1) := by decide +kernel
theorem dX8_findStaff_10 : decode cX8_findStaff 10 = .ok (.getfield 112, 3) := by decide +kernel
theorem dX8_findStaff_13 : decode cX8_findStaff 13 = .ok (.if_icmp .ge 85, 3) := by decide +kernel
theorem dX8_findStaff_16 : decode cX8_findStaff 16 = .ok (.bipush 100, 2) := by decide +kernel
theorem dX8_findStaff_18 : decode cX8_findStaff 18 = .ok (.istore_n 2, 1) := by decide +kernel
theorem dX8_findStaff_19 : decode cX8_findStaff 19 = .ok (.iconst 0, 1) := by decide +kernel
theorem dX8_findStaff_20 : decode cX8_findStaff 20 = .ok (.istore_n 3, 1) := by decide +kernel
theorem dX8_findStaff_21 : decode cX8_findStaff 21 = .ok (.iload_n 1, 1) := by decide +kernel
theorem dX8_findStaff_22 : decode cX8_findStaff 22 = .ok (.istore 4, 2) := by decide +kernel
theorem dX8_findStaff_24 : decode cX8_findStaff 24 = .ok (.iload 4, 2) := by decide +kernel
theorem dX8_findStaff_26 : decode cX8_findStaff 26 = .ok (.iload_n 1, 1) := by decide +kernel
theorem dX8_findStaff_27 : decode cX8_findStaff 27 = .ok (.iconst 4, 1) := by decide +kernel
theorem dX8_findStaff_28 : decode cX8_findStaff 28 = .ok (.iadd, 1) := by decide +kernel
theorem dX8_findStaff_29 : decode cX8_findStaff 29 = .ok (.if_icmp .ge 54, 3) := by decide +kernel
theorem dX8_findStaff_32 : decode cX8_findStaff 32 = .ok (.aload_n 0, 1) := by decide +kernel
theorem dX8_findStaff_33 : decode cX8_findStaff 33 = .ok (.getfield 66, 3) := by decide +kernel
theorem dX8_findStaff_36 : decode cX8_findStaff 36 = .ok (.iload 4, 2) := by decide +kernel
theorem dX8_findStaff_38 : decode cX8_findStaff 38 = .ok (.iconst 1, 1) := by decide +kernel
theorem dX8_findStaff_39 : decode cX8_findStaff 39 = .ok (.iadd, 1) := by decide +kernel
theorem dX8_findStaff_40 : decode cX8_findStaff 40 = .ok (.iaload, 1) := by decide +kernel
theorem dX8_findStaff_41 : decode cX8_findStaff 41 = .ok (.aload_n 0, 1) := by decide +kernel
theorem dX8_findStaff_42 : decode cX8_findStaff 42 = .ok (.getfield 66, 3) := by decide +kernel
theorem dX8_findStaff_45 : decode cX8_findStaff 45 = .ok (.iload 4, 2) := by decide +kernel
theorem dX8_findStaff_47 : decode cX8_findStaff 47 = .ok (.iaload, 1) := by decide +kernel
theorem dX8_findStaff_48 : decode cX8_findStaff 48 = .ok (.isub, 1) := by decide +kernel
theorem dX8_findStaff_49 : decode cX8_findStaff 49 = .ok (.istore 5, 2) := by decide +kernel
theorem dX8_findStaff_51 : decode cX8_findStaff 51 = .ok (.iload 5, 2) := by decide +kernel
theorem dX8_findStaff_53 : decode cX8_findStaff 53 = .ok (.iload_n 2, 1) := by decide +kernel
theorem dX8_findStaff_54 : decode cX8_findStaff 54 = .ok (.if_icmp .ge 8, 3) := by decide +kernel
theorem dX8_findStaff_57 : decode cX8_findStaff 57 = .ok (.iload 5, 2) := by decide +kernel
theorem dX8_findStaff_59 : decode cX8_findStaff 59 = .ok (.goto 4, 3) := by decide +kernel
theorem dX8_findStaff_62 : decode cX8_findStaff 62 = .ok (.iload_n 2, 1) := by decide +kernel
theorem dX8_findStaff_63 : decode cX8_findStaff 63 = .ok (.istore_n 2, 1) := by decide +kernel
theorem dX8_findStaff_64 : decode cX8_findStaff 64 = .ok (.iload 5, 2) := by decide +kernel
theorem dX8_findStaff_66 : decode cX8_findStaff 66 = .ok (.iload_n 3, 1) := by decide +kernel
theorem dX8_findStaff_67 : decode cX8_findStaff 67 = .ok (.if_icmp .le 8, 3) := by decide +kernel
theorem dX8_findStaff_70 : decode cX8_findStaff 70 = .ok (.iload 5, 2) := by decide +kernel
theorem dX8_findStaff_72 : decode cX8_findStaff 72 = .ok (.goto 4, 3) := by decide +kernel
theorem dX8_findStaff_75 : decode cX8_findStaff 75 = .ok (.iload_n 3, 1) := by decide +kernel
theorem dX8_findStaff_76 : decode cX8_findStaff 76 = .ok (.istore_n 3, 1) := by decide +kernel
theorem dX8_findStaff_77 : decode cX8_findStaff 77 = .ok (.iinc 4 1, 3) := by decide +kernel
theorem dX8_findStaff_80 : decode cX8_findStaff 80 = .ok (.goto (-56), 3) := by decide +kernel
theorem dX8_findStaff_83 : decode cX8_findStaff 83 = .ok (.iload_n 3, 1) := by decide +kernel
theorem dX8_findStaff_84 : decode cX8_findStaff 84 = .ok (.iload_n 2, 1) := by decide +kernel
theorem dX8_findStaff_85 : decode cX8_findStaff 85 = .ok (.isub, 1) := by decide +kernel
theorem dX8_findStaff_86 : decode cX8_findStaff 86 = .ok (.iconst 1, 1) := by decide +kernel
theorem dX8_findStaff_87 : decode cX8_findStaff 87 = .ok (.if_icmp .gt 5, 3) := by decide +kernel
theorem dX8_findStaff_90 : decode cX8_findStaff 90 = .ok (.iload_n 1, 1) := by decide +kernel
theorem dX8_findStaff_91 : decode cX8_findStaff 91 = .ok (.ireturn, 1) := by decide +kernel
theorem dX8_findStaff_92 : decode cX8_findStaff 92 = .ok (.iinc 1 1, 3) := by decide +kernel
theorem dX8_findStaff_95 : decode cX8_findStaff 95 = .ok (.goto (-89), 3) := by decide +kernel
theorem dX8_findStaff_98 : decode cX8_findStaff 98 = .ok (.iconst (-1), 1) := by decide +kernel
theorem dX8_findStaff_99 : decode cX8_findStaff 99 = .ok (.ireturn, 1) := by decide +kernel
theorem dX8_staff_0 : decode cX8_staff 0 = .ok (.iload_n 1, 1) := by decide +kernel
theorem dX8_staff_1 : decode cX8_staff 1 = .ok (.iconst 0, 1) := by decide +kernel
theorem dX8_staff_2 : decode cX8_staff 2 = .ok (.iconst 4, 1) := by decide +kernel
theorem dX8_staff_3 : decode cX8_staff 3 = .ok (.invokestatic 100, 3) := by decide +kernel
theorem dX8_staff_6 : decode cX8_staff 6 = .ok (.ifCond .eq 12, 3) := by decide +kernel
theorem dX8_staff_9 : decode cX8_staff 9 = .ok (.iload_n 2, 1) := by decide +kernel
theorem dX8_staff_10 : decode cX8_staff 10 = .ok (.iconst 0, 1) := by decide +kernel
theorem dX8_staff_11 : decode cX8_staff 11 = .ok (.iconst 1, 1) := by decide +kernel
theorem dX8_staff_12 : decode cX8_staff 12 = .ok (.invokestatic 100, 3) := by decide +kernel
theorem dX8_staff_15 : decode cX8_staff 15 = .ok (.ifCond .ne 6, 3) := by decide +kernel
theorem dX8_staff_18 : decode cX8_staff 18 = .ok (.bipush (-2), 2) := by decide +kernel
theorem dX8_staff_20 : decode cX8_staff 20 = .ok (.ireturn, 1) := by decide +kernel
theorem dX8_staff_21 : decode cX8_staff 21 = .ok (.aload_n 0, 1) := by decide +kernel
theorem dX8_staff_22 : decode cX8_staff 22 = .ok (.invokevirtual 122, 3) := by decide +kernel
theorem dX8_staff_25 : decode cX8_staff 25 = .ok (.istore_n 3, 1) := by decide +kernel
theorem dX8_staff_26 : decode cX8_staff 26 = .ok (.iload_n 3, 1) := by decide +kernel
theorem dX8_staff_27 : decode cX8_staff 27 = .ok (.iconst (-1), 1) := by decide +kernel
theorem dX8_staff_28 : decode cX8_staff 28 = .ok (.if_icmp .ne 8, 3) := by decide +kernel
theorem dX8_staff_31 : decode cX8_staff 31 = .ok (.bipush (-3), 2) := by decide +kernel
theorem dX8_staff_33 : decode cX8_staff 33 = .ok (.goto 26, 3) := by decide +kernel
theorem dX8_staff_36 : decode cX8_staff 36 = .ok (.iload_n 2, 1) := by decide +kernel
theorem dX8_staff_37 : decode cX8_staff 37 = .ok (.ifCond .ne 14, 3) := by decide +kernel
theorem dX8_staff_40 : decode cX8_staff 40 = .ok (.aload_n 0, 1) := by decide +kernel
theorem dX8_staff_41 : decode cX8_staff 41 = .ok (.getfield 66, 3) := by decide +kernel
theorem dX8_staff_44 : decode cX8_staff 44 = .ok (.iload_n 3, 1) := by decide +kernel
theorem dX8_staff_45 : decode cX8_staff 45 = .ok (.iload_n 1, 1) := by decide +kernel
theorem dX8_staff_46 : decode cX8_staff 46 = .ok (.iadd, 1) := by decide +kernel
theorem dX8_staff_47 : decode cX8_staff 47 = .ok (.iaload, 1) := by decide +kernel
theorem dX8_staff_48 : decode cX8_staff 48 = .ok (.goto 11, 3) := by decide +kernel
theorem dX8_staff_51 : decode cX8_staff 51 = .ok (.aload_n 0, 1) := by decide +kernel
theorem dX8_staff_52 : decode cX8_staff 52 = .ok (.getfield 69, 3) := by decide +kernel
theorem dX8_staff_55 : decode cX8_staff 55 = .ok (.iload_n 3, 1) := by decide +kernel
theorem dX8_staff_56 : decode cX8_staff 56 = .ok (.iload_n 1, 1) := by decide +kernel
theorem dX8_staff_57 : decode cX8_staff 57 = .ok (.iadd, 1) := by decide +kernel
theorem dX8_staff_58 : decode cX8_staff 58 = .ok (.iaload, 1) := by decide +kernel
theorem dX8_staff_59 : decode cX8_staff 59 = .ok (.ireturn, 1) := by decide +kernel
theorem dX8_takeOff_0 : decode cX8_takeOff 0 = .ok (.iconst 0, 1) := by decide +kernel
theorem dX8_takeOff_1 : decode cX8_takeOff 1 = .ok (.istore_n 1, 1) := by decide +kernel
theorem dX8_takeOff_2 : decode cX8_takeOff 2 = .ok (.iload_n 1, 1) := by decide +kernel
theorem dX8_takeOff_3 : decode cX8_takeOff 3 = .ok (.bipush 32, 2) := by decide +kernel
theorem dX8_takeOff_5 : decode cX8_takeOff 5 = .ok (.if_icmp .ge 21, 3) := by decide +kernel
theorem dX8_takeOff_8 : decode cX8_takeOff 8 = .ok (.aload_n 0, 1) := by decide +kernel
theorem dX8_takeOff_9 : decode cX8_takeOff 9 = .ok (.getfield 72, 3) := by decide +kernel
theorem dX8_takeOff_12 : decode cX8_takeOff 12 = .ok (.iload_n 1, 1) := by decide +kernel
theorem dX8_takeOff_13 : decode cX8_takeOff 13 = .ok (.aload_n 0, 1) := by decide +kernel
theorem dX8_takeOff_14 : decode cX8_takeOff 14 = .ok (.getfield 7, 3) := by decide +kernel
theorem dX8_takeOff_17 : decode cX8_takeOff 17 = .ok (.iload_n 1, 1) := by decide +kernel
theorem dX8_takeOff_18 : decode cX8_takeOff 18 = .ok (.laload, 1) := by decide +kernel
theorem dX8_takeOff_19 : decode cX8_takeOff 19 = .ok (.lastore, 1) := by decide +kernel
theorem dX8_takeOff_20 : decode cX8_takeOff 20 = .ok (.iinc 1 1, 3) := by decide +kernel
theorem dX8_takeOff_23 : decode cX8_takeOff 23 = .ok (.goto (-21), 3) := by decide +kernel
theorem dX8_takeOff_26 : decode cX8_takeOff 26 = .ok (.aload_n 0, 1) := by decide +kernel
theorem dX8_takeOff_27 : decode cX8_takeOff 27 = .ok (.invokevirtual 122, 3) := by decide +kernel
theorem dX8_takeOff_30 : decode cX8_takeOff 30 = .ok (.istore_n 1, 1) := by decide +kernel
theorem dX8_takeOff_31 : decode cX8_takeOff 31 = .ok (.iload_n 1, 1) := by decide +kernel
theorem dX8_takeOff_32 : decode cX8_takeOff 32 = .ok (.istore_n 2, 1) := by decide +kernel
theorem dX8_takeOff_33 : decode cX8_takeOff 33 = .ok (.iload_n 1, 1) := by decide +kernel
theorem dX8_takeOff_34 : decode cX8_takeOff 34 = .ok (.iconst (-1), 1) := by decide +kernel
theorem dX8_takeOff_35 : decode cX8_takeOff 35 = .ok (.if_icmp .eq 106, 3) := by decide +kernel
theorem dX8_takeOff_38 : decode cX8_takeOff 38 = .ok (.iload_n 2, 1) := by decide +kernel
theorem dX8_takeOff_39 : decode cX8_takeOff 39 = .ok (.iload_n 1, 1) := by decide +kernel
theorem dX8_takeOff_40 : decode cX8_takeOff 40 = .ok (.iconst 5, 1) := by decide +kernel
theorem dX8_takeOff_41 : decode cX8_takeOff 41 = .ok (.iadd, 1) := by decide +kernel
theorem dX8_takeOff_42 : decode cX8_takeOff 42 = .ok (.if_icmp .ge 99, 3) := by decide +kernel
theorem dX8_takeOff_45 : decode cX8_takeOff 45 = .ok (.aload_n 0, 1) := by decide +kernel
theorem dX8_takeOff_46 : decode cX8_takeOff 46 = .ok (.getfield 66, 3) := by decide +kernel
theorem dX8_takeOff_49 : decode cX8_takeOff 49 = .ok (.iload_n 2, 1) := by decide +kernel
theorem dX8_takeOff_50 : decode cX8_takeOff 50 = .ok (.iaload, 1) := by decide +kernel
theorem dX8_takeOff_51 : decode cX8_takeOff 51 = .ok (.istore_n 3, 1) := by decide +kernel
theorem dX8_takeOff_52 : decode cX8_takeOff 52 = .ok (.iload_n 3, 1) := by decide +kernel
theorem dX8_takeOff_53 : decode cX8_takeOff 53 = .ok (.aload_n 0, 1) := by decide +kernel
theorem dX8_takeOff_54 : decode cX8_takeOff 54 = .ok (.getfield 69, 3) := by decide +kernel
theorem dX8_takeOff_57 : decode cX8_takeOff 57 = .ok (.iload_n 2, 1) := by decide +kernel
theorem dX8_takeOff_58 : decode cX8_takeOff 58 = .ok (.iaload, 1) := by decide +kernel
theorem dX8_takeOff_59 : decode cX8_takeOff 59 = .ok (.if_icmp .gt 76, 3) := by decide +kernel
theorem dX8_takeOff_62 : decode cX8_takeOff 62 = .ok (.iconst 0, 1) := by decide +kernel
theorem dX8_takeOff_63 : decode cX8_takeOff 63 = .ok (.istore 4, 2) := by decide +kernel
theorem dX8_takeOff_65 : decode cX8_takeOff 65 = .ok (.iload 4, 2) := by decide +kernel
theorem dX8_takeOff_67 : decode cX8_takeOff 67 = .ok (.bipush 60, 2) := by decide +kernel
theorem dX8_takeOff_69 : decode cX8_takeOff 69 = .ok (.if_icmp .ge 60, 3) := by decide +kernel
theorem dX8_takeOff_72 : decode cX8_takeOff 72 = .ok (.aload_n 0, 1) := by decide +kernel
theorem dX8_takeOff_73 : decode cX8_takeOff 73 = .ok (.iload 4, 2) := by decide +kernel
theorem dX8_takeOff_75 : decode cX8_takeOff 75 = .ok (.aload_n 0, 1) := by decide +kernel
theorem dX8_takeOff_76 : decode cX8_takeOff 76 = .ok (.getfield 66, 3) := by decide +kernel
theorem dX8_takeOff_79 : decode cX8_takeOff 79 = .ok (.iload_n 2, 1) := by decide +kernel
theorem dX8_takeOff_80 : decode cX8_takeOff 80 = .ok (.iaload, 1) := by decide +kernel
theorem dX8_takeOff_81 : decode cX8_takeOff 81 = .ok (.iconst 1, 1) := by decide +kernel
theorem dX8_takeOff_82 : decode cX8_takeOff 82 = .ok (.isub, 1) := by decide +kernel
theorem dX8_takeOff_83 : decode cX8_takeOff 83 = .ok (.invokevirtual 108, 3) := by decide +kernel
theorem dX8_takeOff_86 : decode cX8_takeOff 86 = .ok (.ifCond .ne 37, 3) := by decide +kernel
theorem dX8_takeOff_89 : decode cX8_takeOff 89 = .ok (.aload_n 0, 1) := by decide +kernel
theorem dX8_takeOff_90 : decode cX8_takeOff 90 = .ok (.iload 4, 2) := by decide +kernel
theorem dX8_takeOff_92 : decode cX8_takeOff 92 = .ok (.aload_n 0, 1) := by decide +kernel
theorem dX8_takeOff_93 : decode cX8_takeOff 93 = .ok (.getfield 69, 3) := by decide +kernel
theorem dX8_takeOff_96 : decode cX8_takeOff 96 = .ok (.iload_n 2, 1) := by decide +kernel
theorem dX8_takeOff_97 : decode cX8_takeOff 97 = .ok (.iaload, 1) := by decide +kernel
theorem dX8_takeOff_98 : decode cX8_takeOff 98 = .ok (.iconst 1, 1) := by decide +kernel
theorem dX8_takeOff_99 : decode cX8_takeOff 99 = .ok (.iadd, 1) := by decide +kernel
theorem dX8_takeOff_100 : decode cX8_takeOff 100 = .ok (.invokevirtual 108, 3) := by decide +kernel
theorem dX8_takeOff_103 : decode cX8_takeOff 103 = .ok (.ifCond .ne 20, 3) := by decide +kernel
theorem dX8_takeOff_106 : decode cX8_takeOff 106 = .ok (.aload_n 0, 1) := by decide +kernel
theorem dX8_takeOff_107 : decode cX8_takeOff 107 = .ok (.getfield 72, 3) := by decide +kernel
theorem dX8_takeOff_110 : decode cX8_takeOff 110 = .ok (.iload_n 3, 1) := by decide +kernel
theorem dX8_takeOff_111 : decode cX8_takeOff 111 = .ok (.dup2, 1) := by decide +kernel
theorem dX8_takeOff_112 : decode cX8_takeOff 112 = .ok (.laload, 1) := by decide +kernel
theorem dX8_takeOff_113 : decode cX8_takeOff 113 = .ok (.lconst 1, 1) := by decide +kernel
theorem dX8_takeOff_114 : decode cX8_takeOff 114 = .ok (.iload 4, 2) := by decide +kernel
theorem dX8_takeOff_116 : decode cX8_takeOff 116 = .ok (.lshl, 1) := by decide +kernel
theorem dX8_takeOff_117 : decode cX8_takeOff 117 = .ok (.ldc2_w 126, 3) := by decide +kernel
theorem dX8_takeOff_120 : decode cX8_takeOff 120 = .ok (.lxor, 1) := by decide +kernel
theorem dX8_takeOff_121 : decode cX8_takeOff 121 = .ok (.land, 1) := by decide +kernel
theorem dX8_takeOff_122 : decode cX8_takeOff 122 = .ok (.lastore, 1) := by decide +kernel
theorem dX8_takeOff_123 : decode cX8_takeOff 123 = .ok (.iinc 4 1, 3) := by decide +kernel
theorem dX8_takeOff_126 : decode cX8_takeOff 126 = .ok (.goto (-61), 3) := by decide +kernel
theorem dX8_takeOff_129 : decode cX8_takeOff 129 = .ok (.iinc 3 1, 3) := by decide +kernel
theorem dX8_takeOff_132 : decode cX8_takeOff 132 = .ok (.goto (-80), 3) := by decide +kernel
theorem dX8_takeOff_135 : decode cX8_takeOff 135 = .ok (.iinc 2 1, 3) := by decide +kernel
theorem dX8_takeOff_138 : decode cX8_takeOff 138 = .ok (.goto (-105), 3) := by decide +kernel
theorem dX8_takeOff_141 : decode cX8_takeOff 141 = .ok (.return_, 1) := by decide +kernel
theorem dX8_spread_0 : decode cX8_spread 0 = .ok (.aload_n 0, 1) := by decide +kernel
theorem dX8_spread_1 : decode cX8_spread 1 = .ok (.getfield 23, 3) := by decide +kernel
theorem dX8_spread_4 : decode cX8_spread 4 = .ok (.iload_n 3, 1) := by decide +kernel
theorem dX8_spread_5 : decode cX8_spread 5 = .ok (.iconst 0, 1) := by decide +kernel
theorem dX8_spread_6 : decode cX8_spread 6 = .ok (.iastore, 1) := by decide +kernel
theorem dX8_spread_7 : decode cX8_spread 7 = .ok (.aload_n 0, 1) := by decide +kernel
theorem dX8_spread_8 : decode cX8_spread 8 = .ok (.getfield 27, 3) := by decide +kernel
theorem dX8_spread_11 : decode cX8_spread 11 = .ok (.iload_n 3, 1) := by decide +kernel
theorem dX8_spread_12 : decode cX8_spread 12 = .ok (.iload_n 1, 1) := by decide +kernel
theorem dX8_spread_13 : decode cX8_spread 13 = .ok (.iastore, 1) := by decide +kernel
theorem dX8_spread_14 : decode cX8_spread 14 = .ok (.aload_n 0, 1) := by decide +kernel
theorem dX8_spread_15 : decode cX8_spread 15 = .ok (.getfield 30, 3) := by decide +kernel
theorem dX8_spread_18 : decode cX8_spread 18 = .ok (.iload_n 3, 1) := by decide +kernel
theorem dX8_spread_19 : decode cX8_spread 19 = .ok (.iload_n 2, 1) := by decide +kernel
theorem dX8_spread_20 : decode cX8_spread 20 = .ok (.iastore, 1) := by decide +kernel
theorem dX8_spread_21 : decode cX8_spread 21 = .ok (.aload_n 0, 1) := by decide +kernel
theorem dX8_spread_22 : decode cX8_spread 22 = .ok (.getfield 33, 3) := by decide +kernel
theorem dX8_spread_25 : decode cX8_spread 25 = .ok (.iload_n 3, 1) := by decide +kernel
theorem dX8_spread_26 : decode cX8_spread 26 = .ok (.iload_n 1, 1) := by decide +kernel
theorem dX8_spread_27 : decode cX8_spread 27 = .ok (.iastore, 1) := by decide +kernel
theorem dX8_spread_28 : decode cX8_spread 28 = .ok (.aload_n 0, 1) := by decide +kernel
theorem dX8_spread_29 : decode cX8_spread 29 = .ok (.getfield 36, 3) := by decide +kernel
theorem dX8_spread_32 : decode cX8_spread 32 = .ok (.iload_n 3, 1) := by decide +kernel
theorem dX8_spread_33 : decode cX8_spread 33 = .ok (.iload_n 2, 1) := by decide +kernel
theorem dX8_spread_34 : decode cX8_spread 34 = .ok (.iastore, 1) := by decide +kernel
theorem dX8_spread_35 : decode cX8_spread 35 = .ok (.aload_n 0, 1) := by decide +kernel
theorem dX8_spread_36 : decode cX8_spread 36 = .ok (.getfield 39, 3) := by decide +kernel
theorem dX8_spread_39 : decode cX8_spread 39 = .ok (.iload_n 3, 1) := by decide +kernel
theorem dX8_spread_40 : decode cX8_spread 40 = .ok (.iload_n 1, 1) := by decide +kernel
theorem dX8_spread_41 : decode cX8_spread 41 = .ok (.iastore, 1) := by decide +kernel
theorem dX8_spread_42 : decode cX8_spread 42 = .ok (.iconst 1, 1) := by decide +kernel
theorem dX8_spread_43 : decode cX8_spread 43 = .ok (.istore 4, 2) := by decide +kernel
theorem dX8_spread_45 : decode cX8_spread 45 = .ok (.aload_n 0, 1) := by decide +kernel
theorem dX8_spread_46 : decode cX8_spread 46 = .ok (.getfield 75, 3) := by decide +kernel
theorem dX8_spread_49 : decode cX8_spread 49 = .ok (.iconst 0, 1) := by decide +kernel
theorem dX8_spread_50 : decode cX8_spread 50 = .ok (.bipush 60, 2) := by decide +kernel
theorem dX8_spread_52 : decode cX8_spread 52 = .ok (.iload_n 2, 1) := by decide +kernel
theorem dX8_spread_53 : decode cX8_spread 53 = .ok (.imul, 1) := by decide +kernel
theorem dX8_spread_54 : decode cX8_spread 54 = .ok (.iload_n 1, 1) := by decide +kernel
theorem dX8_spread_55 : decode cX8_spread 55 = .ok (.iadd, 1) := by decide +kernel
theorem dX8_spread_56 : decode cX8_spread 56 = .ok (.iastore, 1) := by decide +kernel
theorem dX8_spread_57 : decode cX8_spread 57 = .ok (.aload_n 0, 1) := by decide +kernel
theorem dX8_spread_58 : decode cX8_spread 58 = .ok (.getfield 72, 3) := by decide +kernel
theorem dX8_spread_61 : decode cX8_spread 61 = .ok (.iload_n 2, 1) := by decide +kernel
theorem dX8_spread_62 : decode cX8_spread 62 = .ok (.dup2, 1) := by decide +kernel
theorem dX8_spread_63 : decode cX8_spread 63 = .ok (.laload, 1) := by decide +kernel
theorem dX8_spread_64 : decode cX8_spread 64 = .ok (.lconst 1, 1) := by decide +kernel
theorem dX8_spread_65 : decode cX8_spread 65 = .ok (.iload_n 1, 1) := by decide +kernel
theorem dX8_spread_66 : decode cX8_spread 66 = .ok (.lshl, 1) := by decide +kernel
theorem dX8_spread_67 : decode cX8_spread 67 = .ok (.ldc2_w 126, 3) := by decide +kernel
theorem dX8_spread_70 : decode cX8_spread 70 = .ok (.lxor, 1) := by decide +kernel
theorem dX8_spread_71 : decode cX8_spread 71 = .ok (.land, 1) := by decide +kernel
theorem dX8_spread_72 : decode cX8_spread 72 = .ok (.lastore, 1) := by decide +kernel
theorem dX8_spread_73 : decode cX8_spread 73 = .ok (.iload 4, 2) := by decide +kernel
theorem dX8_spread_75 : decode cX8_spread 75 = .ok (.ifCond .le 318, 3) := by decide +kernel
theorem dX8_spread_78 : decode cX8_spread 78 = .ok (.iinc 4 (-1), 3) := by decide +kernel
theorem dX8_spread_81 : decode cX8_spread 81 = .ok (.aload_n 0, 1) := by decide +kernel
theorem dX8_spread_82 : decode cX8_spread 82 = .ok (.getfield 75, 3) := by decide +kernel
theorem dX8_spread_85 : decode cX8_spread 85 = .ok (.iload 4, 2) := by decide +kernel
theorem dX8_spread_87 : decode cX8_spread 87 = .ok (.iaload, 1) := by decide +kernel
theorem dX8_spread_88 : decode cX8_spread 88 = .ok (.bipush 60, 2) := by decide +kernel
theorem dX8_spread_90 : decode cX8_spread 90 = .ok (.irem, 1) := by decide +kernel
theorem dX8_spread_91 : decode cX8_spread 91 = .ok (.istore 5, 2) := by decide +kernel
theorem dX8_spread_93 : decode cX8_spread 93 = .ok (.aload_n 0, 1) := by decide +kernel
theorem dX8_spread_94 : decode cX8_spread 94 = .ok (.getfield 75, 3) := by decide +kernel
theorem dX8_spread_97 : decode cX8_spread 97 = .ok (.iload 4, 2) := by decide +kernel
theorem dX8_spread_99 : decode cX8_spread 99 = .ok (.iaload, 1) := by decide +kernel
theorem dX8_spread_100 : decode cX8_spread 100 = .ok (.bipush 60, 2) := by decide +kernel
theorem dX8_spread_102 : decode cX8_spread 102 = .ok (.idiv, 1) := by decide +kernel
theorem dX8_spread_103 : decode cX8_spread 103 = .ok (.istore 6, 2) := by decide +kernel
theorem dX8_spread_105 : decode cX8_spread 105 = .ok (.aload_n 0, 1) := by decide +kernel
theorem dX8_spread_106 : decode cX8_spread 106 = .ok (.getfield 23, 3) := by decide +kernel
theorem dX8_spread_109 : decode cX8_spread 109 = .ok (.iload_n 3, 1) := by decide +kernel
theorem dX8_spread_110 : decode cX8_spread 110 = .ok (.dup2, 1) := by decide +kernel
theorem dX8_spread_111 : decode cX8_spread 111 = .ok (.iaload, 1) := by decide +kernel
theorem dX8_spread_112 : decode cX8_spread 112 = .ok (.iconst 1, 1) := by decide +kernel
theorem dX8_spread_113 : decode cX8_spread 113 = .ok (.iadd, 1) := by decide +kernel
theorem dX8_spread_114 : decode cX8_spread 114 = .ok (.iastore, 1) := by decide +kernel
theorem dX8_spread_115 : decode cX8_spread 115 = .ok (.aload_n 0, 1) := by decide +kernel
theorem dX8_spread_116 : decode cX8_spread 116 = .ok (.getfield 39, 3) := by decide +kernel
theorem dX8_spread_119 : decode cX8_spread 119 = .ok (.iload_n 3, 1) := by decide +kernel
theorem dX8_spread_120 : decode cX8_spread 120 = .ok (.iload 6, 2) := by decide +kernel
theorem dX8_spread_122 : decode cX8_spread 122 = .ok (.aload_n 0, 1) := by decide +kernel
theorem dX8_spread_123 : decode cX8_spread 123 = .ok (.getfield 30, 3) := by decide +kernel
theorem dX8_spread_126 : decode cX8_spread 126 = .ok (.iload_n 3, 1) := by decide +kernel
theorem dX8_spread_127 : decode cX8_spread 127 = .ok (.iaload, 1) := by decide +kernel
theorem dX8_spread_128 : decode cX8_spread 128 = .ok (.if_icmp .lt 25, 3) := by decide +kernel
theorem dX8_spread_131 : decode cX8_spread 131 = .ok (.iload 6, 2) := by decide +kernel
theorem dX8_spread_133 : decode cX8_spread 133 = .ok (.aload_n 0, 1) := by decide +kernel
theorem dX8_spread_134 : decode cX8_spread 134 = .ok (.getfield 30, 3) := by decide +kernel
theorem dX8_spread_137 : decode cX8_spread 137 = .ok (.iload_n 3, 1) := by decide +kernel
theorem dX8_spread_138 : decode cX8_spread 138 = .ok (.iaload, 1) := by decide +kernel
theorem dX8_spread_139 : decode cX8_spread 139 = .ok (.if_icmp .ne 19, 3) := by decide +kernel
theorem dX8_spread_142 : decode cX8_spread 142 = .ok (.iload 5, 2) := by decide +kernel
theorem dX8_spread_144 : decode cX8_spread 144 = .ok (.aload_n 0, 1) := by decide +kernel
theorem dX8_spread_145 : decode cX8_spread 145 = .ok (.getfield 39, 3) := by decide +kernel
theorem dX8_spread_148 : decode cX8_spread 148 = .ok (.iload_n 3, 1) := by decide +kernel
theorem dX8_spread_149 : decode cX8_spread 149 = .ok (.iaload, 1) := by decide +kernel
theorem dX8_spread_150 : decode cX8_spread 150 = .ok (.if_icmp .ge 8, 3) := by decide +kernel
theorem dX8_spread_153 : decode cX8_spread 153 = .ok (.iload 5, 2) := by decide +kernel
theorem dX8_spread_155 : decode cX8_spread 155 = .ok (.goto 9, 3) := by decide +kernel
theorem dX8_spread_158 : decode cX8_spread 158 = .ok (.aload_n 0, 1) := by decide +kernel
theorem dX8_spread_159 : decode cX8_spread 159 = .ok (.getfield 39, 3) := by decide +kernel
theorem dX8_spread_162 : decode cX8_spread 162 = .ok (.iload_n 3, 1) := by decide +kernel
theorem dX8_spread_163 : decode cX8_spread 163 = .ok (.iaload, 1) := by decide +kernel
theorem dX8_spread_164 : decode cX8_spread 164 = .ok (.iastore, 1) := by decide +kernel
theorem dX8_spread_165 : decode cX8_spread 165 = .ok (.aload_n 0, 1) := by decide +kernel
theorem dX8_spread_166 : decode cX8_spread 166 = .ok (.getfield 27, 3) := by decide +kernel
theorem dX8_spread_169 : decode cX8_spread 169 = .ok (.iload_n 3, 1) := by decide +kernel
theorem dX8_spread_170 : decode cX8_spread 170 = .ok (.iload 5, 2) := by decide +kernel
theorem dX8_spread_172 : decode cX8_spread 172 = .ok (.aload_n 0, 1) := by decide +kernel
theorem dX8_spread_173 : decode cX8_spread 173 = .ok (.getfield 27, 3) := by decide +kernel
theorem dX8_spread_176 : decode cX8_spread 176 = .ok (.iload_n 3, 1) := by decide +kernel
theorem dX8_spread_177 : decode cX8_spread 177 = .ok (.iaload, 1) := by decide +kernel
theorem dX8_spread_178 : decode cX8_spread 178 = .ok (.if_icmp .ge 8, 3) := by decide +kernel
theorem dX8_spread_181 : decode cX8_spread 181 = .ok (.iload 5, 2) := by decide +kernel
theorem dX8_spread_183 : decode cX8_spread 183 = .ok (.goto 9, 3) := by decide +kernel
theorem dX8_spread_186 : decode cX8_spread 186 = .ok (.aload_n 0, 1) := by decide +kernel
theorem dX8_spread_187 : decode cX8_spread 187 = .ok (.getfield 27, 3) := by decide +kernel
theorem dX8_spread_190 : decode cX8_spread 190 = .ok (.iload_n 3, 1) := by decide +kernel
theorem dX8_spread_191 : decode cX8_spread 191 = .ok (.iaload, 1) := by decide +kernel
theorem dX8_spread_192 : decode cX8_spread 192 = .ok (.iastore, 1) := by decide +kernel
theorem dX8_spread_193 : decode cX8_spread 193 = .ok (.aload_n 0, 1) := by decide +kernel
theorem dX8_spread_194 : decode cX8_spread 194 = .ok (.getfield 30, 3) := by decide +kernel
theorem dX8_spread_197 : decode cX8_spread 197 = .ok (.iload_n 3, 1) := by decide +kernel
theorem dX8_spread_198 : decode cX8_spread 198 = .ok (.iload 6, 2) := by decide +kernel
theorem dX8_spread_200 : decode cX8_spread 200 = .ok (.aload_n 0, 1) := by decide +kernel
theorem dX8_spread_201 : decode cX8_spread 201 = .ok (.getfield 30, 3) := by decide +kernel
theorem dX8_spread_204 : decode cX8_spread 204 = .ok (.iload_n 3, 1) := by decide +kernel
theorem dX8_spread_205 : decode cX8_spread 205 = .ok (.iaload, 1) := by decide +kernel
theorem dX8_spread_206 : decode cX8_spread 206 = .ok (.if_icmp .ge 8, 3) := by decide +kernel
theorem dX8_spread_209 : decode cX8_spread 209 = .ok (.iload 6, 2) := by decide +kernel
theorem dX8_spread_211 : decode cX8_spread 211 = .ok (.goto 9, 3) := by decide +kernel
theorem dX8_spread_214 : decode cX8_spread 214 = .ok (.aload_n 0, 1) := by decide +kernel
theorem dX8_spread_215 : decode cX8_spread 215 = .ok (.getfield 30, 3) := by decide +kernel
theorem dX8_spread_218 : decode cX8_spread 218 = .ok (.iload_n 3, 1) := by decide +kernel
theorem dX8_spread_219 : decode cX8_spread 219 = .ok (.iaload, 1) := by decide +kernel
theorem dX8_spread_220 : decode cX8_spread 220 = .ok (.iastore, 1) := by decide +kernel
theorem dX8_spread_221 : decode cX8_spread 221 = .ok (.aload_n 0, 1) := by decide +kernel
theorem dX8_spread_222 : decode cX8_spread 222 = .ok (.getfield 33, 3) := by decide +kernel
theorem dX8_spread_225 : decode cX8_spread 225 = .ok (.iload_n 3, 1) := by decide +kernel
theorem dX8_spread_226 : decode cX8_spread 226 = .ok (.iload 5, 2) := by decide +kernel
theorem dX8_spread_228 : decode cX8_spread 228 = .ok (.aload_n 0, 1) := by decide +kernel
theorem dX8_spread_229 : decode cX8_spread 229 = .ok (.getfield 33, 3) := by decide +kernel
theorem dX8_spread_232 : decode cX8_spread 232 = .ok (.iload_n 3, 1) := by decide +kernel
theorem dX8_spread_233 : decode cX8_spread 233 = .ok (.iaload, 1) := by decide +kernel
theorem dX8_spread_234 : decode cX8_spread 234 = .ok (.if_icmp .le 8, 3) := by decide +kernel
theorem dX8_spread_237 : decode cX8_spread 237 = .ok (.iload 5, 2) := by decide +kernel
theorem dX8_spread_239 : decode cX8_spread 239 = .ok (.goto 9, 3) := by decide +kernel
theorem dX8_spread_242 : decode cX8_spread 242 = .ok (.aload_n 0, 1) := by decide +kernel
theorem dX8_spread_243 : decode cX8_spread 243 = .ok (.getfield 33, 3) := by decide +kernel
theorem dX8_spread_246 : decode cX8_spread 246 = .ok (.iload_n 3, 1) := by decide +kernel
theorem dX8_spread_247 : decode cX8_spread 247 = .ok (.iaload, 1) := by decide +kernel
theorem dX8_spread_248 : decode cX8_spread 248 = .ok (.iastore, 1) := by decide +kernel
theorem dX8_spread_249 : decode cX8_spread 249 = .ok (.aload_n 0, 1) := by decide +kernel
theorem dX8_spread_250 : decode cX8_spread 250 = .ok (.getfield 36, 3) := by decide +kernel
theorem dX8_spread_253 : decode cX8_spread 253 = .ok (.iload_n 3, 1) := by decide +kernel
theorem dX8_spread_254 : decode cX8_spread 254 = .ok (.iload 6, 2) := by decide +kernel
theorem dX8_spread_256 : decode cX8_spread 256 = .ok (.aload_n 0, 1) := by decide +kernel
theorem dX8_spread_257 : decode cX8_spread 257 = .ok (.getfield 36, 3) := by decide +kernel
theorem dX8_spread_260 : decode cX8_spread 260 = .ok (.iload_n 3, 1) := by decide +kernel
theorem dX8_spread_261 : decode cX8_spread 261 = .ok (.iaload, 1) := by decide +kernel
theorem dX8_spread_262 : decode cX8_spread 262 = .ok (.if_icmp .le 8, 3) := by decide +kernel
theorem dX8_spread_265 : decode cX8_spread 265 = .ok (.iload 6, 2) := by decide +kernel
theorem dX8_spread_267 : decode cX8_spread 267 = .ok (.goto 9, 3) := by decide +kernel
theorem dX8_spread_270 : decode cX8_spread 270 = .ok (.aload_n 0, 1) := by decide +kernel
theorem dX8_spread_271 : decode cX8_spread 271 = .ok (.getfield 36, 3) := by decide +kernel
theorem dX8_spread_274 : decode cX8_spread 274 = .ok (.iload_n 3, 1) := by decide +kernel
theorem dX8_spread_275 : decode cX8_spread 275 = .ok (.iaload, 1) := by decide +kernel
theorem dX8_spread_276 : decode cX8_spread 276 = .ok (.iastore, 1) := by decide +kernel
theorem dX8_spread_277 : decode cX8_spread 277 = .ok (.iconst 0, 1) := by decide +kernel
theorem dX8_spread_278 : decode cX8_spread 278 = .ok (.istore 7, 2) := by decide +kernel
theorem dX8_spread_280 : decode cX8_spread 280 = .ok (.iload 7, 2) := by decide +kernel
theorem dX8_spread_282 : decode cX8_spread 282 = .ok (.bipush 9, 2) := by decide +kernel
theorem dX8_spread_284 : decode cX8_spread 284 = .ok (.if_icmp .ge 106, 3) := by decide +kernel
theorem dX8_spread_287 : decode cX8_spread 287 = .ok (.iload 5, 2) := by decide +kernel
theorem dX8_spread_289 : decode cX8_spread 289 = .ok (.iload 7, 2) := by decide +kernel
theorem dX8_spread_291 : decode cX8_spread 291 = .ok (.iconst 3, 1) := by decide +kernel
theorem dX8_spread_292 : decode cX8_spread 292 = .ok (.irem, 1) := by decide +kernel
theorem dX8_spread_293 : decode cX8_spread 293 = .ok (.iadd, 1) := by decide +kernel
theorem dX8_spread_294 : decode cX8_spread 294 = .ok (.iconst 1, 1) := by decide +kernel
theorem dX8_spread_295 : decode cX8_spread 295 = .ok (.isub, 1) := by decide +kernel
theorem dX8_spread_296 : decode cX8_spread 296 = .ok (.istore 8, 2) := by decide +kernel
theorem dX8_spread_298 : decode cX8_spread 298 = .ok (.iload 6, 2) := by decide +kernel
theorem dX8_spread_300 : decode cX8_spread 300 = .ok (.iload 7, 2) := by decide +kernel
theorem dX8_spread_302 : decode cX8_spread 302 = .ok (.iconst 3, 1) := by decide +kernel
theorem dX8_spread_303 : decode cX8_spread 303 = .ok (.idiv, 1) := by decide +kernel
theorem dX8_spread_304 : decode cX8_spread 304 = .ok (.iadd, 1) := by decide +kernel
theorem dX8_spread_305 : decode cX8_spread 305 = .ok (.iconst 1, 1) := by decide +kernel
theorem dX8_spread_306 : decode cX8_spread 306 = .ok (.isub, 1) := by decide +kernel
theorem dX8_spread_307 : decode cX8_spread 307 = .ok (.istore 9, 2) := by decide +kernel
theorem dX8_spread_309 : decode cX8_spread 309 = .ok (.iload 8, 2) := by decide +kernel
theorem dX8_spread_311 : decode cX8_spread 311 = .ok (.iconst 0, 1) := by decide +kernel
theorem dX8_spread_312 : decode cX8_spread 312 = .ok (.bipush 59, 2) := by decide +kernel
theorem dX8_spread_314 : decode cX8_spread 314 = .ok (.invokestatic 100, 3) := by decide +kernel
theorem dX8_spread_317 : decode cX8_spread 317 = .ok (.ifCond .eq 67, 3) := by decide +kernel
theorem dX8_spread_320 : decode cX8_spread 320 = .ok (.iload 9, 2) := by decide +kernel
theorem dX8_spread_322 : decode cX8_spread 322 = .ok (.iconst 0, 1) := by decide +kernel
theorem dX8_spread_323 : decode cX8_spread 323 = .ok (.bipush 31, 2) := by decide +kernel
theorem dX8_spread_325 : decode cX8_spread 325 = .ok (.invokestatic 100, 3) := by decide +kernel
theorem dX8_spread_328 : decode cX8_spread 328 = .ok (.ifCond .eq 56, 3) := by decide +kernel
theorem dX8_spread_331 : decode cX8_spread 331 = .ok (.aload_n 0, 1) := by decide +kernel
theorem dX8_spread_332 : decode cX8_spread 332 = .ok (.getfield 72, 3) := by decide +kernel
theorem dX8_spread_335 : decode cX8_spread 335 = .ok (.iload 9, 2) := by decide +kernel
theorem dX8_spread_337 : decode cX8_spread 337 = .ok (.laload, 1) := by decide +kernel
theorem dX8_spread_338 : decode cX8_spread 338 = .ok (.iload 8, 2) := by decide +kernel
theorem dX8_spread_340 : decode cX8_spread 340 = .ok (.lshr, 1) := by decide +kernel
theorem dX8_spread_341 : decode cX8_spread 341 = .ok (.lconst 1, 1) := by decide +kernel
theorem dX8_spread_342 : decode cX8_spread 342 = .ok (.land, 1) := by decide +kernel
theorem dX8_spread_343 : decode cX8_spread 343 = .ok (.lconst 1, 1) := by decide +kernel
theorem dX8_spread_344 : decode cX8_spread 344 = .ok (.lcmp, 1) := by decide +kernel
theorem dX8_spread_345 : decode cX8_spread 345 = .ok (.ifCond .ne 39, 3) := by decide +kernel
theorem dX8_spread_348 : decode cX8_spread 348 = .ok (.aload_n 0, 1) := by decide +kernel
theorem dX8_spread_349 : decode cX8_spread 349 = .ok (.getfield 72, 3) := by decide +kernel
theorem dX8_spread_352 : decode cX8_spread 352 = .ok (.iload 9, 2) := by decide +kernel
theorem dX8_spread_354 : decode cX8_spread 354 = .ok (.dup2, 1) := by decide +kernel
theorem dX8_spread_355 : decode cX8_spread 355 = .ok (.laload, 1) := by decide +kernel
theorem dX8_spread_356 : decode cX8_spread 356 = .ok (.lconst 1, 1) := by decide +kernel
theorem dX8_spread_357 : decode cX8_spread 357 = .ok (.iload 8, 2) := by decide +kernel
theorem dX8_spread_359 : decode cX8_spread 359 = .ok (.lshl, 1) := by decide +kernel
theorem dX8_spread_360 : decode cX8_spread 360 = .ok (.ldc2_w 126, 3) := by decide +kernel
theorem dX8_spread_363 : decode cX8_spread 363 = .ok (.lxor, 1) := by decide +kernel
theorem dX8_spread_364 : decode cX8_spread 364 = .ok (.land, 1) := by decide +kernel
theorem dX8_spread_365 : decode cX8_spread 365 = .ok (.lastore, 1) := by decide +kernel
theorem dX8_spread_366 : decode cX8_spread 366 = .ok (.aload_n 0, 1) := by decide +kernel
theorem dX8_spread_367 : decode cX8_spread 367 = .ok (.getfield 75, 3) := by decide +kernel
theorem dX8_spread_370 : decode cX8_spread 370 = .ok (.iload 4, 2) := by decide +kernel
theorem dX8_spread_372 : decode cX8_spread 372 = .ok (.bipush 60, 2) := by decide +kernel
theorem dX8_spread_374 : decode cX8_spread 374 = .ok (.iload 9, 2) := by decide +kernel
theorem dX8_spread_376 : decode cX8_spread 376 = .ok (.imul, 1) := by decide +kernel
theorem dX8_spread_377 : decode cX8_spread 377 = .ok (.iload 8, 2) := by decide +kernel
theorem dX8_spread_379 : decode cX8_spread 379 = .ok (.iadd, 1) := by decide +kernel
theorem dX8_spread_380 : decode cX8_spread 380 = .ok (.iastore, 1) := by decide +kernel
theorem dX8_spread_381 : decode cX8_spread 381 = .ok (.iinc 4 1, 3) := by decide +kernel
theorem dX8_spread_384 : decode cX8_spread 384 = .ok (.iinc 7 1, 3) := by decide +kernel
theorem dX8_spread_387 : decode cX8_spread 387 = .ok (.goto (-107), 3) := by decide +kernel
theorem dX8_spread_390 : decode cX8_spread 390 = .ok (.goto (-317), 3) := by decide +kernel
theorem dX8_spread_393 : decode cX8_spread 393 = .ok (.return_, 1) := by decide +kernel
theorem dX8_swap_0 : decode cX8_swap 0 = .ok (.aload_n 1, 1) := by decide +kernel
theorem dX8_swap_1 : decode cX8_swap 1 = .ok (.iload_n 2, 1) := by decide +kernel
theorem dX8_swap_2 : decode cX8_swap 2 = .ok (.iaload, 1) := by decide +kernel
theorem dX8_swap_3 : decode cX8_swap 3 = .ok (.istore 4, 2) := by decide +kernel
theorem dX8_swap_5 : decode cX8_swap 5 = .ok (.aload_n 1, 1) := by decide +kernel
theorem dX8_swap_6 : decode cX8_swap 6 = .ok (.iload_n 2, 1) := by decide +kernel
theorem dX8_swap_7 : decode cX8_swap 7 = .ok (.aload_n 1, 1) := by decide +kernel
theorem dX8_swap_8 : decode cX8_swap 8 = .ok (.iload_n 3, 1) := by decide +kernel
theorem dX8_swap_9 : decode cX8_swap 9 = .ok (.iaload, 1) := by decide +kernel
theorem dX8_swap_10 : decode cX8_swap 10 = .ok (.iastore, 1) := by decide +kernel
theorem dX8_swap_11 : decode cX8_swap 11 = .ok (.aload_n 1, 1) := by decide +kernel
theorem dX8_swap_12 : decode cX8_swap 12 = .ok (.iload_n 3, 1) := by decide +kernel
theorem dX8_swap_13 : decode cX8_swap 13 = .ok (.iload 4, 2) := by decide +kernel
theorem dX8_swap_15 : decode cX8_swap 15 = .ok (.iastore, 1) := by decide +kernel
theorem dX8_swap_16 : decode cX8_swap 16 = .ok (.return_, 1) := by decide +kernel
theorem dX8_isAhead_0 : decode cX8_isAhead 0 = .ok (.aload_n 0, 1) := by decide +kernel
theorem dX8_isAhead_1 : decode cX8_isAhead 1 = .ok (.getfield 27, 3) := by decide +kernel
theorem dX8_isAhead_4 : decode cX8_isAhead 4 = .ok (.iload_n 1, 1) := by decide +kernel
theorem dX8_isAhead_5 : decode cX8_isAhead 5 = .ok (.iaload, 1) := by decide +kernel
theorem dX8_isAhead_6 : decode cX8_isAhead 6 = .ok (.aload_n 0, 1) := by decide +kernel
theorem dX8_isAhead_7 : decode cX8_isAhead 7 = .ok (.getfield 27, 3) := by decide +kernel
theorem dX8_isAhead_10 : decode cX8_isAhead 10 = .ok (.iload_n 2, 1) := by decide +kernel
theorem dX8_isAhead_11 : decode cX8_isAhead 11 = .ok (.iaload, 1) := by decide +kernel
theorem dX8_isAhead_12 : decode cX8_isAhead 12 = .ok (.if_icmp .ne 52, 3) := by decide +kernel
theorem dX8_isAhead_15 : decode cX8_isAhead 15 = .ok (.aload_n 0, 1) := by decide +kernel
theorem dX8_isAhead_16 : decode cX8_isAhead 16 = .ok (.getfield 30, 3) := by decide +kernel
theorem dX8_isAhead_19 : decode cX8_isAhead 19 = .ok (.iload_n 1, 1) := by decide +kernel
theorem dX8_isAhead_20 : decode cX8_isAhead 20 = .ok (.iaload, 1) := by decide +kernel
theorem dX8_isAhead_21 : decode cX8_isAhead 21 = .ok (.aload_n 0, 1) := by decide +kernel
theorem dX8_isAhead_22 : decode cX8_isAhead 22 = .ok (.getfield 30, 3) := by decide +kernel
theorem dX8_isAhead_25 : decode cX8_isAhead 25 = .ok (.iload_n 2, 1) := by decide +kernel
theorem dX8_isAhead_26 : decode cX8_isAhead 26 = .ok (.iaload, 1) := by decide +kernel
theorem dX8_isAhead_27 : decode cX8_isAhead 27 = .ok (.if_icmp .lt 33, 3) := by decide +kernel
theorem dX8_isAhead_30 : decode cX8_isAhead 30 = .ok (.aload_n 0, 1) := by decide +kernel
theorem dX8_isAhead_31 : decode cX8_isAhead 31 = .ok (.getfield 30, 3) := by decide +kernel
theorem dX8_isAhead_34 : decode cX8_isAhead 34 = .ok (.iload_n 1, 1) := by decide +kernel
theorem dX8_isAhead_35 : decode cX8_isAhead 35 = .ok (.iaload, 1) := by decide +kernel
theorem dX8_isAhead_36 : decode cX8_isAhead 36 = .ok (.aload_n 0, 1) := by decide +kernel
theorem dX8_isAhead_37 : decode cX8_isAhead 37 = .ok (.getfield 30, 3) := by decide +kernel
theorem dX8_isAhead_40 : decode cX8_isAhead 40 = .ok (.iload_n 2, 1) := by decide +kernel
theorem dX8_isAhead_41 : decode cX8_isAhead 41 = .ok (.iaload, 1) := by decide +kernel
theorem dX8_isAhead_42 : decode cX8_isAhead 42 = .ok (.if_icmp .ne 22, 3) := by decide +kernel
theorem dX8_isAhead_45 : decode cX8_isAhead 45 = .ok (.aload_n 0, 1) := by decide +kernel
theorem dX8_isAhead_46 : decode cX8_isAhead 46 = .ok (.getfield 39, 3) := by decide +kernel
theorem dX8_isAhead_49 : decode cX8_isAhead 49 = .ok (.iload_n 1, 1) := by decide +kernel
theorem dX8_isAhead_50 : decode cX8_isAhead 50 = .ok (.iaload, 1) := by decide +kernel
theorem dX8_isAhead_51 : decode cX8_isAhead 51 = .ok (.aload_n 0, 1) := by decide +kernel
theorem dX8_isAhead_52 : decode cX8_isAhead 52 = .ok (.getfield 39, 3) := by decide +kernel
theorem dX8_isAhead_55 : decode cX8_isAhead 55 = .ok (.iload_n 2, 1) := by decide +kernel
theorem dX8_isAhead_56 : decode cX8_isAhead 56 = .ok (.iaload, 1) := by decide +kernel
theorem dX8_isAhead_57 : decode cX8_isAhead 57 = .ok (.if_icmp .ge 7, 3) := by decide +kernel
theorem dX8_isAhead_60 : decode cX8_isAhead 60 = .ok (.iconst 1, 1) := by decide +kernel
theorem dX8_isAhead_61 : decode cX8_isAhead 61 = .ok (.goto 4, 3) := by decide +kernel
theorem dX8_isAhead_64 : decode cX8_isAhead 64 = .ok (.iconst 0, 1) := by decide +kernel
theorem dX8_isAhead_65 : decode cX8_isAhead 65 = .ok (.ireturn, 1) := by decide +kernel
theorem dX8_order_0 : decode cX8_order 0 = .ok (.iconst 1, 1) := by decide +kernel
theorem dX8_order_1 : decode cX8_order 1 = .ok (.istore_n 2, 1) := by decide +kernel
theorem dX8_order_2 : decode cX8_order 2 = .ok (.iload_n 2, 1) := by decide +kernel
theorem dX8_order_3 : decode cX8_order 3 = .ok (.iload_n 1, 1) := by decide +kernel
theorem dX8_order_4 : decode cX8_order 4 = .ok (.if_icmp .ge 104, 3) := by decide +kernel
theorem dX8_order_7 : decode cX8_order 7 = .ok (.iload_n 2, 1) := by decide +kernel
theorem dX8_order_8 : decode cX8_order 8 = .ok (.istore_n 3, 1) := by decide +kernel
theorem dX8_order_9 : decode cX8_order 9 = .ok (.iload_n 3, 1) := by decide +kernel
theorem dX8_order_10 : decode cX8_order 10 = .ok (.ifCond .le 92, 3) := by decide +kernel
theorem dX8_order_13 : decode cX8_order 13 = .ok (.aload_n 0, 1) := by decide +kernel
theorem dX8_order_14 : decode cX8_order 14 = .ok (.iload_n 3, 1) := by decide +kernel
theorem dX8_order_15 : decode cX8_order 15 = .ok (.iload_n 3, 1) := by decide +kernel
theorem dX8_order_16 : decode cX8_order 16 = .ok (.iconst 1, 1) := by decide +kernel
theorem dX8_order_17 : decode cX8_order 17 = .ok (.isub, 1) := by decide +kernel
theorem dX8_order_18 : decode cX8_order 18 = .ok (.invokevirtual 128, 3) := by decide +kernel
theorem dX8_order_21 : decode cX8_order 21 = .ok (.ifCond .eq 81, 3) := by decide +kernel
theorem dX8_order_24 : decode cX8_order 24 = .ok (.aload_n 0, 1) := by decide +kernel
theorem dX8_order_25 : decode cX8_order 25 = .ok (.aload_n 0, 1) := by decide +kernel
theorem dX8_order_26 : decode cX8_order 26 = .ok (.getfield 23, 3) := by decide +kernel
theorem dX8_order_29 : decode cX8_order 29 = .ok (.iload_n 3, 1) := by decide +kernel
theorem dX8_order_30 : decode cX8_order 30 = .ok (.iload_n 3, 1) := by decide +kernel
theorem dX8_order_31 : decode cX8_order 31 = .ok (.iconst 1, 1) := by decide +kernel
theorem dX8_order_32 : decode cX8_order 32 = .ok (.isub, 1) := by decide +kernel
theorem dX8_order_33 : decode cX8_order 33 = .ok (.invokevirtual 131, 3) := by decide +kernel
theorem dX8_order_36 : decode cX8_order 36 = .ok (.aload_n 0, 1) := by decide +kernel
theorem dX8_order_37 : decode cX8_order 37 = .ok (.aload_n 0, 1) := by decide +kernel
theorem dX8_order_38 : decode cX8_order 38 = .ok (.getfield 39, 3) := by decide +kernel
theorem dX8_order_41 : decode cX8_order 41 = .ok (.iload_n 3, 1) := by decide +kernel
theorem dX8_order_42 : decode cX8_order 42 = .ok (.iload_n 3, 1) := by decide +kernel
theorem dX8_order_43 : decode cX8_order 43 = .ok (.iconst 1, 1) := by decide +kernel
theorem dX8_order_44 : decode cX8_order 44 = .ok (.isub, 1) := by decide +kernel
theorem dX8_order_45 : decode cX8_order 45 = .ok (.invokevirtual 131, 3) := by decide +kernel
theorem dX8_order_48 : decode cX8_order 48 = .ok (.aload_n 0, 1) := by decide +kernel
theorem dX8_order_49 : decode cX8_order 49 = .ok (.aload_n 0, 1) := by decide +kernel
theorem dX8_order_50 : decode cX8_order 50 = .ok (.getfield 27, 3) := by decide +kernel
theorem dX8_order_53 : decode cX8_order 53 = .ok (.iload_n 3, 1) := by decide +kernel
theorem dX8_order_54 : decode cX8_order 54 = .ok (.iload_n 3, 1) := by decide +kernel
theorem dX8_order_55 : decode cX8_order 55 = .ok (.iconst 1, 1) := by decide +kernel
theorem dX8_order_56 : decode cX8_order 56 = .ok (.isub, 1) := by decide +kernel
theorem dX8_order_57 : decode cX8_order 57 = .ok (.invokevirtual 131, 3) := by decide +kernel
theorem dX8_order_60 : decode cX8_order 60 = .ok (.aload_n 0, 1) := by decide +kernel
theorem dX8_order_61 : decode cX8_order 61 = .ok (.aload_n 0, 1) := by decide +kernel
theorem dX8_order_62 : decode cX8_order 62 = .ok (.getfield 30, 3) := by decide +kernel
theorem dX8_order_65 : decode cX8_order 65 = .ok (.iload_n 3, 1) := by decide +kernel
theorem dX8_order_66 : decode cX8_order 66 = .ok (.iload_n 3, 1) := by decide +kernel
theorem dX8_order_67 : decode cX8_order 67 = .ok (.iconst 1, 1) := by decide +kernel
theorem dX8_order_68 : decode cX8_order 68 = .ok (.isub, 1) := by decide +kernel
theorem dX8_order_69 : decode cX8_order 69 = .ok (.invokevirtual 131, 3) := by decide +kernel
theorem dX8_order_72 : decode cX8_order 72 = .ok (.aload_n 0, 1) := by decide +kernel
theorem dX8_order_73 : decode cX8_order 73 = .ok (.aload_n 0, 1) := by decide +kernel
theorem dX8_order_74 : decode cX8_order 74 = .ok (.getfield 33, 3) := by decide +kernel
theorem dX8_order_77 : decode cX8_order 77 = .ok (.iload_n 3, 1) := by decide +kernel
theorem dX8_order_78 : decode cX8_order 78 = .ok (.iload_n 3, 1) := by decide +kernel
theorem dX8_order_79 : decode cX8_order 79 = .ok (.iconst 1, 1) := by decide +kernel
theorem dX8_order_80 : decode cX8_order 80 = .ok (.isub, 1) := by decide +kernel
theorem dX8_order_81 : decode cX8_order 81 = .ok (.invokevirtual 131, 3) := by decide +kernel
theorem dX8_order_84 : decode cX8_order 84 = .ok (.aload_n 0, 1) := by decide +kernel
theorem dX8_order_85 : decode cX8_order 85 = .ok (.aload_n 0, 1) := by decide +kernel
theorem dX8_order_86 : decode cX8_order 86 = .ok (.getfield 36, 3) := by decide +kernel
theorem dX8_order_89 : decode cX8_order 89 = .ok (.iload_n 3, 1) := by decide +kernel
theorem dX8_order_90 : decode cX8_order 90 = .ok (.iload_n 3, 1) := by decide +kernel
theorem dX8_order_91 : decode cX8_order 91 = .ok (.iconst 1, 1) := by decide +kernel
theorem dX8_order_92 : decode cX8_order 92 = .ok (.isub, 1) := by decide +kernel
theorem dX8_order_93 : decode cX8_order 93 = .ok (.invokevirtual 131, 3) := by decide +kernel
theorem dX8_order_96 : decode cX8_order 96 = .ok (.iinc 3 (-1), 3) := by decide +kernel
theorem dX8_order_99 : decode cX8_order 99 = .ok (.goto (-90), 3) := by decide +kernel
theorem dX8_order_102 : decode cX8_order 102 = .ok (.iinc 2 1, 3) := by decide +kernel
theorem dX8_order_105 : decode cX8_order 105 = .ok (.goto (-103), 3) := by decide +kernel
theorem dX8_order_108 : decode cX8_order 108 = .ok (.return_, 1) := by decide +kernel
theorem dX8_find_0 : decode cX8_find 0 = .ok (.aload_n 0, 1) := by decide +kernel
theorem dX8_find_1 : decode cX8_find 1 = .ok (.invokevirtual 135, 3) := by decide +kernel
theorem dX8_find_4 : decode cX8_find 4 = .ok (.aload_n 0, 1) := by decide +kernel
theorem dX8_find_5 : decode cX8_find 5 = .ok (.iconst (-1), 1) := by decide +kernel
theorem dX8_find_6 : decode cX8_find 6 = .ok (.putfield 17, 3) := by decide +kernel
theorem dX8_find_9 : decode cX8_find 9 = .ok (.iconst 0, 1) := by decide +kernel
theorem dX8_find_10 : decode cX8_find 10 = .ok (.istore_n 1, 1) := by decide +kernel
theorem dX8_find_11 : decode cX8_find 11 = .ok (.iconst 0, 1) := by decide +kernel
theorem dX8_find_12 : decode cX8_find 12 = .ok (.istore_n 2, 1) := by decide +kernel
theorem dX8_find_13 : decode cX8_find 13 = .ok (.iload_n 2, 1) := by decide +kernel
theorem dX8_find_14 : decode cX8_find 14 = .ok (.bipush 60, 2) := by decide +kernel
theorem dX8_find_16 : decode cX8_find 16 = .ok (.if_icmp .ge 57, 3) := by decide +kernel
theorem dX8_find_19 : decode cX8_find 19 = .ok (.iconst 0, 1) := by decide +kernel
theorem dX8_find_20 : decode cX8_find 20 = .ok (.istore_n 3, 1) := by decide +kernel
theorem dX8_find_21 : decode cX8_find 21 = .ok (.iload_n 3, 1) := by decide +kernel
theorem dX8_find_22 : decode cX8_find 22 = .ok (.bipush 32, 2) := by decide +kernel
theorem dX8_find_24 : decode cX8_find 24 = .ok (.if_icmp .ge 43, 3) := by decide +kernel
theorem dX8_find_27 : decode cX8_find 27 = .ok (.aload_n 0, 1) := by decide +kernel
theorem dX8_find_28 : decode cX8_find 28 = .ok (.getfield 72, 3) := by decide +kernel
theorem dX8_find_31 : decode cX8_find 31 = .ok (.iload_n 3, 1) := by decide +kernel
theorem dX8_find_32 : decode cX8_find 32 = .ok (.laload, 1) := by decide +kernel
theorem dX8_find_33 : decode cX8_find 33 = .ok (.iload_n 2, 1) := by decide +kernel
theorem dX8_find_34 : decode cX8_find 34 = .ok (.lshr, 1) := by decide +kernel
theorem dX8_find_35 : decode cX8_find 35 = .ok (.lconst 1, 1) := by decide +kernel
theorem dX8_find_36 : decode cX8_find 36 = .ok (.land, 1) := by decide +kernel
theorem dX8_find_37 : decode cX8_find 37 = .ok (.lconst 1, 1) := by decide +kernel
theorem dX8_find_38 : decode cX8_find 38 = .ok (.lcmp, 1) := by decide +kernel
theorem dX8_find_39 : decode cX8_find 39 = .ok (.ifCond .ne 22, 3) := by decide +kernel
theorem dX8_find_42 : decode cX8_find 42 = .ok (.iload_n 1, 1) := by decide +kernel
theorem dX8_find_43 : decode cX8_find 43 = .ok (.bipush 40, 2) := by decide +kernel
theorem dX8_find_45 : decode cX8_find 45 = .ok (.if_icmp .ne 6, 3) := by decide +kernel
theorem dX8_find_48 : decode cX8_find 48 = .ok (.bipush (-4), 2) := by decide +kernel
theorem dX8_find_50 : decode cX8_find 50 = .ok (.ireturn, 1) := by decide +kernel
theorem dX8_find_51 : decode cX8_find 51 = .ok (.aload_n 0, 1) := by decide +kernel
theorem dX8_find_52 : decode cX8_find 52 = .ok (.iload_n 2, 1) := by decide +kernel
theorem dX8_find_53 : decode cX8_find 53 = .ok (.iload_n 3, 1) := by decide +kernel
theorem dX8_find_54 : decode cX8_find 54 = .ok (.iload_n 1, 1) := by decide +kernel
theorem dX8_find_55 : decode cX8_find 55 = .ok (.invokevirtual 138, 3) := by decide +kernel
theorem dX8_find_58 : decode cX8_find 58 = .ok (.iinc 1 1, 3) := by decide +kernel
theorem dX8_find_61 : decode cX8_find 61 = .ok (.iinc 3 1, 3) := by decide +kernel
theorem dX8_find_64 : decode cX8_find 64 = .ok (.goto (-43), 3) := by decide +kernel
theorem dX8_find_67 : decode cX8_find 67 = .ok (.iinc 2 1, 3) := by decide +kernel
theorem dX8_find_70 : decode cX8_find 70 = .ok (.goto (-57), 3) := by decide +kernel
theorem dX8_find_73 : decode cX8_find 73 = .ok (.aload_n 0, 1) := by decide +kernel
theorem dX8_find_74 : decode cX8_find 74 = .ok (.iload_n 1, 1) := by decide +kernel
theorem dX8_find_75 : decode cX8_find 75 = .ok (.invokevirtual 142, 3) := by decide +kernel
theorem dX8_find_78 : decode cX8_find 78 = .ok (.aload_n 0, 1) := by decide +kernel
theorem dX8_find_79 : decode cX8_find 79 = .ok (.iload_n 1, 1) := by decide +kernel
theorem dX8_find_80 : decode cX8_find 80 = .ok (.putfield 17, 3) := by decide +kernel
theorem dX8_find_83 : decode cX8_find 83 = .ok (.iload_n 1, 1) := by decide +kernel
theorem dX8_find_84 : decode cX8_find 84 = .ok (.aload_n 0, 1) := by decide +kernel
theorem dX8_find_85 : decode cX8_find 85 = .ok (.getfield 20, 3) := by decide +kernel
theorem dX8_find_88 : decode cX8_find 88 = .ok (.if_icmp .eq 7, 3) := by decide +kernel
theorem dX8_find_91 : decode cX8_find 91 = .ok (.aload_n 0, 1) := by decide +kernel
theorem dX8_find_92 : decode cX8_find 92 = .ok (.invokevirtual 97, 3) := by decide +kernel
theorem dX8_find_95 : decode cX8_find 95 = .ok (.aload_n 0, 1) := by decide +kernel
theorem dX8_find_96 : decode cX8_find 96 = .ok (.iload_n 1, 1) := by decide +kernel
theorem dX8_find_97 : decode cX8_find 97 = .ok (.putfield 20, 3) := by decide +kernel
theorem dX8_find_100 : decode cX8_find 100 = .ok (.iload_n 1, 1) := by decide +kernel
theorem dX8_find_101 : decode cX8_find 101 = .ok (.ireturn, 1) := by decide +kernel
theorem dX8_isSign_0 : decode cX8_isSign 0 = .ok (.iload_n 1, 1) := by decide +kernel
theorem dX8_isSign_1 : decode cX8_isSign 1 = .ok (.iconst 0, 1) := by decide +kernel
theorem dX8_isSign_2 : decode cX8_isSign 2 = .ok (.aload_n 0, 1) := by decide +kernel
theorem dX8_isSign_3 : decode cX8_isSign 3 = .ok (.getfield 17, 3) := by decide +kernel
theorem dX8_isSign_6 : decode cX8_isSign 6 = .ok (.iconst 1, 1) := by decide +kernel
theorem dX8_isSign_7 : decode cX8_isSign 7 = .ok (.isub, 1) := by decide +kernel
theorem dX8_isSign_8 : decode cX8_isSign 8 = .ok (.invokestatic 100, 3) := by decide +kernel
theorem dX8_isSign_11 : decode cX8_isSign 11 = .ok (.ireturn, 1) := by decide +kernel
theorem dX8_stepOf_0 : decode cX8_stepOf 0 = .ok (.aload_n 0, 1) := by decide +kernel
theorem dX8_stepOf_1 : decode cX8_stepOf 1 = .ok (.invokevirtual 122, 3) := by decide +kernel
theorem dX8_stepOf_4 : decode cX8_stepOf 4 = .ok (.istore_n 2, 1) := by decide +kernel
theorem dX8_stepOf_5 : decode cX8_stepOf 5 = .ok (.iload_n 2, 1) := by decide +kernel
theorem dX8_stepOf_6 : decode cX8_stepOf 6 = .ok (.iconst (-1), 1) := by decide +kernel
theorem dX8_stepOf_7 : decode cX8_stepOf 7 = .ok (.if_icmp .ne 7, 3) := by decide +kernel
theorem dX8_stepOf_10 : decode cX8_stepOf 10 = .ok (.sipush (-1001), 3) := by decide +kernel
theorem dX8_stepOf_13 : decode cX8_stepOf 13 = .ok (.ireturn, 1) := by decide +kernel
theorem dX8_stepOf_14 : decode cX8_stepOf 14 = .ok (.iconst 2, 1) := by decide +kernel
theorem dX8_stepOf_15 : decode cX8_stepOf 15 = .ok (.aload_n 0, 1) := by decide +kernel
theorem dX8_stepOf_16 : decode cX8_stepOf 16 = .ok (.getfield 69, 3) := by decide +kernel
theorem dX8_stepOf_19 : decode cX8_stepOf 19 = .ok (.iload_n 2, 1) := by decide +kernel
theorem dX8_stepOf_20 : decode cX8_stepOf 20 = .ok (.iconst 4, 1) := by decide +kernel
theorem dX8_stepOf_21 : decode cX8_stepOf 21 = .ok (.iadd, 1) := by decide +kernel
theorem dX8_stepOf_22 : decode cX8_stepOf 22 = .ok (.iaload, 1) := by decide +kernel
theorem dX8_stepOf_23 : decode cX8_stepOf 23 = .ok (.aload_n 0, 1) := by decide +kernel
theorem dX8_stepOf_24 : decode cX8_stepOf 24 = .ok (.getfield 30, 3) := by decide +kernel
theorem dX8_stepOf_27 : decode cX8_stepOf 27 = .ok (.iload_n 1, 1) := by decide +kernel
theorem dX8_stepOf_28 : decode cX8_stepOf 28 = .ok (.iaload, 1) := by decide +kernel
theorem dX8_stepOf_29 : decode cX8_stepOf 29 = .ok (.aload_n 0, 1) := by decide +kernel
theorem dX8_stepOf_30 : decode cX8_stepOf 30 = .ok (.getfield 36, 3) := by decide +kernel
theorem dX8_stepOf_33 : decode cX8_stepOf 33 = .ok (.iload_n 1, 1) := by decide +kernel
theorem dX8_stepOf_34 : decode cX8_stepOf 34 = .ok (.iaload, 1) := by decide +kernel
theorem dX8_stepOf_35 : decode cX8_stepOf 35 = .ok (.iadd, 1) := by decide +kernel
theorem dX8_stepOf_36 : decode cX8_stepOf 36 = .ok (.iconst 2, 1) := by decide +kernel
theorem dX8_stepOf_37 : decode cX8_stepOf 37 = .ok (.idiv, 1) := by decide +kernel
theorem dX8_stepOf_38 : decode cX8_stepOf 38 = .ok (.isub, 1) := by decide +kernel
theorem dX8_stepOf_39 : decode cX8_stepOf 39 = .ok (.imul, 1) := by decide +kernel
theorem dX8_stepOf_40 : decode cX8_stepOf 40 = .ok (.istore_n 3, 1) := by decide +kernel
theorem dX8_stepOf_41 : decode cX8_stepOf 41 = .ok (.aload_n 0, 1) := by decide +kernel
theorem dX8_stepOf_42 : decode cX8_stepOf 42 = .ok (.getfield 66, 3) := by decide +kernel
theorem dX8_stepOf_45 : decode cX8_stepOf 45 = .ok (.iload_n 2, 1) := by decide +kernel
theorem dX8_stepOf_46 : decode cX8_stepOf 46 = .ok (.iconst 1, 1) := by decide +kernel
theorem dX8_stepOf_47 : decode cX8_stepOf 47 = .ok (.iadd, 1) := by decide +kernel
theorem dX8_stepOf_48 : decode cX8_stepOf 48 = .ok (.iaload, 1) := by decide +kernel
theorem dX8_stepOf_49 : decode cX8_stepOf 49 = .ok (.aload_n 0, 1) := by decide +kernel
theorem dX8_stepOf_50 : decode cX8_stepOf 50 = .ok (.getfield 66, 3) := by decide +kernel
theorem dX8_stepOf_53 : decode cX8_stepOf 53 = .ok (.iload_n 2, 1) := by decide +kernel
theorem dX8_stepOf_54 : decode cX8_stepOf 54 = .ok (.iaload, 1) := by decide +kernel
theorem dX8_stepOf_55 : decode cX8_stepOf 55 = .ok (.isub, 1) := by decide +kernel
theorem dX8_stepOf_56 : decode cX8_stepOf 56 = .ok (.istore 4, 2) := by decide +kernel
theorem dX8_stepOf_58 : decode cX8_stepOf 58 = .ok (.iload_n 3, 1) := by decide +kernel
theorem dX8_stepOf_59 : decode cX8_stepOf 59 = .ok (.ifCond .lt 10, 3) := by decide +kernel
theorem dX8_stepOf_62 : decode cX8_stepOf 62 = .ok (.iload_n 3, 1) := by decide +kernel
theorem dX8_stepOf_63 : decode cX8_stepOf 63 = .ok (.iload 4, 2) := by decide +kernel
theorem dX8_stepOf_65 : decode cX8_stepOf 65 = .ok (.idiv, 1) := by decide +kernel
theorem dX8_stepOf_66 : decode cX8_stepOf 66 = .ok (.goto 13, 3) := by decide +kernel
theorem dX8_stepOf_69 : decode cX8_stepOf 69 = .ok (.iload 4, 2) := by decide +kernel
theorem dX8_stepOf_71 : decode cX8_stepOf 71 = .ok (.iconst 1, 1) := by decide +kernel
theorem dX8_stepOf_72 : decode cX8_stepOf 72 = .ok (.isub, 1) := by decide +kernel
theorem dX8_stepOf_73 : decode cX8_stepOf 73 = .ok (.iload_n 3, 1) := by decide +kernel
theorem dX8_stepOf_74 : decode cX8_stepOf 74 = .ok (.isub, 1) := by decide +kernel
theorem dX8_stepOf_75 : decode cX8_stepOf 75 = .ok (.iload 4, 2) := by decide +kernel
theorem dX8_stepOf_77 : decode cX8_stepOf 77 = .ok (.idiv, 1) := by decide +kernel
theorem dX8_stepOf_78 : decode cX8_stepOf 78 = .ok (.ineg, 1) := by decide +kernel
theorem dX8_stepOf_79 : decode cX8_stepOf 79 = .ok (.ireturn, 1) := by decide +kernel
theorem dX8_sign_0 : decode cX8_sign 0 = .ok (.aload_n 0, 1) := by decide +kernel
theorem dX8_sign_1 : decode cX8_sign 1 = .ok (.iload_n 1, 1) := by decide +kernel
theorem dX8_sign_2 : decode cX8_sign 2 = .ok (.invokevirtual 146, 3) := by decide +kernel
theorem dX8_sign_5 : decode cX8_sign 5 = .ok (.ifCond .ne 6, 3) := by decide +kernel
theorem dX8_sign_8 : decode cX8_sign 8 = .ok (.ldc 149, 2) := by decide +kernel
theorem dX8_sign_10 : decode cX8_sign 10 = .ok (.ireturn, 1) := by decide +kernel
theorem dX8_sign_11 : decode cX8_sign 11 = .ok (.iload_n 2, 1) := by decide +kernel
theorem dX8_sign_12 : decode cX8_sign 12 = .ok (.tableswitch 92 0 6 #[44, 51, 58, 65, 72, 79, 85], 44) := by decide +kernel
theorem dX8_sign_56 : decode cX8_sign 56 = .ok (.aload_n 0, 1) := by decide +kernel
theorem dX8_sign_57 : decode cX8_sign 57 = .ok (.getfield 23, 3) := by decide +kernel
theorem dX8_sign_60 : decode cX8_sign 60 = .ok (.iload_n 1, 1) := by decide +kernel
theorem dX8_sign_61 : decode cX8_sign 61 = .ok (.iaload, 1) := by decide +kernel
theorem dX8_sign_62 : decode cX8_sign 62 = .ok (.ireturn, 1) := by decide +kernel
theorem dX8_sign_63 : decode cX8_sign 63 = .ok (.aload_n 0, 1) := by decide +kernel
theorem dX8_sign_64 : decode cX8_sign 64 = .ok (.getfield 27, 3) := by decide +kernel
theorem dX8_sign_67 : decode cX8_sign 67 = .ok (.iload_n 1, 1) := by decide +kernel
theorem dX8_sign_68 : decode cX8_sign 68 = .ok (.iaload, 1) := by decide +kernel
theorem dX8_sign_69 : decode cX8_sign 69 = .ok (.ireturn, 1) := by decide +kernel
theorem dX8_sign_70 : decode cX8_sign 70 = .ok (.aload_n 0, 1) := by decide +kernel
theorem dX8_sign_71 : decode cX8_sign 71 = .ok (.getfield 30, 3) := by decide +kernel
theorem dX8_sign_74 : decode cX8_sign 74 = .ok (.iload_n 1, 1) := by decide +kernel
theorem dX8_sign_75 : decode cX8_sign 75 = .ok (.iaload, 1) := by decide +kernel
theorem dX8_sign_76 : decode cX8_sign 76 = .ok (.ireturn, 1) := by decide +kernel
theorem dX8_sign_77 : decode cX8_sign 77 = .ok (.aload_n 0, 1) := by decide +kernel
theorem dX8_sign_78 : decode cX8_sign 78 = .ok (.getfield 33, 3) := by decide +kernel
theorem dX8_sign_81 : decode cX8_sign 81 = .ok (.iload_n 1, 1) := by decide +kernel
theorem dX8_sign_82 : decode cX8_sign 82 = .ok (.iaload, 1) := by decide +kernel
theorem dX8_sign_83 : decode cX8_sign 83 = .ok (.ireturn, 1) := by decide +kernel
theorem dX8_sign_84 : decode cX8_sign 84 = .ok (.aload_n 0, 1) := by decide +kernel
theorem dX8_sign_85 : decode cX8_sign 85 = .ok (.getfield 36, 3) := by decide +kernel
theorem dX8_sign_88 : decode cX8_sign 88 = .ok (.iload_n 1, 1) := by decide +kernel
theorem dX8_sign_89 : decode cX8_sign 89 = .ok (.iaload, 1) := by decide +kernel
theorem dX8_sign_90 : decode cX8_sign 90 = .ok (.ireturn, 1) := by decide +kernel
theorem dX8_sign_91 : decode cX8_sign 91 = .ok (.aload_n 0, 1) := by decide +kernel
theorem dX8_sign_92 : decode cX8_sign 92 = .ok (.iload_n 1, 1) := by decide +kernel
theorem dX8_sign_93 : decode cX8_sign 93 = .ok (.invokevirtual 150, 3) := by decide +kernel
theorem dX8_sign_96 : decode cX8_sign 96 = .ok (.ireturn, 1) := by decide +kernel
theorem dX8_sign_97 : decode cX8_sign 97 = .ok (.aload_n 0, 1) := by decide +kernel
theorem dX8_sign_98 : decode cX8_sign 98 = .ok (.getfield 42, 3) := by decide +kernel
theorem dX8_sign_101 : decode cX8_sign 101 = .ok (.iload_n 1, 1) := by decide +kernel
theorem dX8_sign_102 : decode cX8_sign 102 = .ok (.iaload, 1) := by decide +kernel
theorem dX8_sign_103 : decode cX8_sign 103 = .ok (.ireturn, 1) := by decide +kernel
theorem dX8_sign_104 : decode cX8_sign 104 = .ok (.ldc 149, 2) := by decide +kernel
theorem dX8_sign_106 : decode cX8_sign 106 = .ok (.ireturn, 1) := by decide +kernel
theorem dX8_kind_0 : decode cX8_kind 0 = .ok (.iload_n 1, 1) := by decide +kernel
theorem dX8_kind_1 : decode cX8_kind 1 = .ok (.iconst 0, 1) := by decide +kernel
theorem dX8_kind_2 : decode cX8_kind 2 = .ok (.iconst 5, 1) := by decide +kernel
theorem dX8_kind_3 : decode cX8_kind 3 = .ok (.invokestatic 100, 3) := by decide +kernel
theorem dX8_kind_6 : decode cX8_kind 6 = .ok (.ifCond .eq 47, 3) := by decide +kernel
theorem dX8_kind_9 : decode cX8_kind 9 = .ok (.iload_n 2, 1) := by decide +kernel
theorem dX8_kind_10 : decode cX8_kind 10 = .ok (.iconst 0, 1) := by decide +kernel
theorem dX8_kind_11 : decode cX8_kind 11 = .ok (.sipush 2000, 3) := by decide +kernel
theorem dX8_kind_14 : decode cX8_kind 14 = .ok (.invokestatic 100, 3) := by decide +kernel
theorem dX8_kind_17 : decode cX8_kind 17 = .ok (.ifCond .eq 36, 3) := by decide +kernel
theorem dX8_kind_20 : decode cX8_kind 20 = .ok (.iload_n 3, 1) := by decide +kernel
theorem dX8_kind_21 : decode cX8_kind 21 = .ok (.iload_n 2, 1) := by decide +kernel
theorem dX8_kind_22 : decode cX8_kind 22 = .ok (.sipush 2000, 3) := by decide +kernel
theorem dX8_kind_25 : decode cX8_kind 25 = .ok (.invokestatic 100, 3) := by decide +kernel
theorem dX8_kind_28 : decode cX8_kind 28 = .ok (.ifCond .eq 25, 3) := by decide +kernel
theorem dX8_kind_31 : decode cX8_kind 31 = .ok (.iload 4, 2) := by decide +kernel
theorem dX8_kind_33 : decode cX8_kind 33 = .ok (.iconst 1, 1) := by decide +kernel
theorem dX8_kind_34 : decode cX8_kind 34 = .ok (.bipush 32, 2) := by decide +kernel
theorem dX8_kind_36 : decode cX8_kind 36 = .ok (.invokestatic 100, 3) := by decide +kernel
theorem dX8_kind_39 : decode cX8_kind 39 = .ok (.ifCond .eq 14, 3) := by decide +kernel
theorem dX8_kind_42 : decode cX8_kind 42 = .ok (.iload 5, 2) := by decide +kernel
theorem dX8_kind_44 : decode cX8_kind 44 = .ok (.iconst 0, 1) := by decide +kernel
theorem dX8_kind_45 : decode cX8_kind 45 = .ok (.bipush 100, 2) := by decide +kernel
theorem dX8_kind_47 : decode cX8_kind 47 = .ok (.invokestatic 100, 3) := by decide +kernel
theorem dX8_kind_50 : decode cX8_kind 50 = .ok (.ifCond .ne 6, 3) := by decide +kernel
theorem dX8_kind_53 : decode cX8_kind 53 = .ok (.bipush (-2), 2) := by decide +kernel
theorem dX8_kind_55 : decode cX8_kind 55 = .ok (.ireturn, 1) := by decide +kernel
theorem dX8_kind_56 : decode cX8_kind 56 = .ok (.aload_n 0, 1) := by decide +kernel
theorem dX8_kind_57 : decode cX8_kind 57 = .ok (.getfield 45, 3) := by decide +kernel
theorem dX8_kind_60 : decode cX8_kind 60 = .ok (.iload_n 1, 1) := by decide +kernel
theorem dX8_kind_61 : decode cX8_kind 61 = .ok (.iload_n 2, 1) := by decide +kernel
theorem dX8_kind_62 : decode cX8_kind 62 = .ok (.iastore, 1) := by decide +kernel
theorem dX8_kind_63 : decode cX8_kind 63 = .ok (.aload_n 0, 1) := by decide +kernel
theorem dX8_kind_64 : decode cX8_kind 64 = .ok (.getfield 48, 3) := by decide +kernel
theorem dX8_kind_67 : decode cX8_kind 67 = .ok (.iload_n 1, 1) := by decide +kernel
theorem dX8_kind_68 : decode cX8_kind 68 = .ok (.iload_n 3, 1) := by decide +kernel
theorem dX8_kind_69 : decode cX8_kind 69 = .ok (.iastore, 1) := by decide +kernel
theorem dX8_kind_70 : decode cX8_kind 70 = .ok (.aload_n 0, 1) := by decide +kernel
theorem dX8_kind_71 : decode cX8_kind 71 = .ok (.getfield 51, 3) := by decide +kernel
theorem dX8_kind_74 : decode cX8_kind 74 = .ok (.iload_n 1, 1) := by decide +kernel
theorem dX8_kind_75 : decode cX8_kind 75 = .ok (.iload 4, 2) := by decide +kernel
theorem dX8_kind_77 : decode cX8_kind 77 = .ok (.iastore, 1) := by decide +kernel
theorem dX8_kind_78 : decode cX8_kind 78 = .ok (.aload_n 0, 1) := by decide +kernel
theorem dX8_kind_79 : decode cX8_kind 79 = .ok (.getfield 54, 3) := by decide +kernel
theorem dX8_kind_82 : decode cX8_kind 82 = .ok (.iload_n 1, 1) := by decide +kernel
theorem dX8_kind_83 : decode cX8_kind 83 = .ok (.iload 5, 2) := by decide +kernel
theorem dX8_kind_85 : decode cX8_kind 85 = .ok (.iastore, 1) := by decide +kernel
theorem dX8_kind_86 : decode cX8_kind 86 = .ok (.iconst 1, 1) := by decide +kernel
theorem dX8_kind_87 : decode cX8_kind 87 = .ok (.ireturn, 1) := by decide +kernel
theorem dX8_set_0 : decode cX8_set 0 = .ok (.iload_n 1, 1) := by decide +kernel
theorem dX8_set_1 : decode cX8_set 1 = .ok (.iconst 0, 1) := by decide +kernel
theorem dX8_set_2 : decode cX8_set 2 = .ok (.iconst 1, 1) := by decide +kernel
theorem dX8_set_3 : decode cX8_set 3 = .ok (.invokestatic 100, 3) := by decide +kernel
theorem dX8_set_6 : decode cX8_set 6 = .ok (.ifCond .eq 31, 3) := by decide +kernel
theorem dX8_set_9 : decode cX8_set 9 = .ok (.iload_n 1, 1) := by decide +kernel
theorem dX8_set_10 : decode cX8_set 10 = .ok (.ifCond .ne 17, 3) := by decide +kernel
theorem dX8_set_13 : decode cX8_set 13 = .ok (.iload_n 2, 1) := by decide +kernel
theorem dX8_set_14 : decode cX8_set 14 = .ok (.iconst 0, 1) := by decide +kernel
theorem dX8_set_15 : decode cX8_set 15 = .ok (.sipush 1000, 3) := by decide +kernel
theorem dX8_set_18 : decode cX8_set 18 = .ok (.invokestatic 100, 3) := by decide +kernel
theorem dX8_set_21 : decode cX8_set 21 = .ok (.ifCond .ne 19, 3) := by decide +kernel
theorem dX8_set_24 : decode cX8_set 24 = .ok (.goto 13, 3) := by decide +kernel
theorem dX8_set_27 : decode cX8_set 27 = .ok (.iload_n 2, 1) := by decide +kernel
theorem dX8_set_28 : decode cX8_set 28 = .ok (.iconst 2, 1) := by decide +kernel
theorem dX8_set_29 : decode cX8_set 29 = .ok (.bipush 48, 2) := by decide +kernel
theorem dX8_set_31 : decode cX8_set 31 = .ok (.invokestatic 100, 3) := by decide +kernel
theorem dX8_set_34 : decode cX8_set 34 = .ok (.ifCond .ne 6, 3) := by decide +kernel
theorem dX8_set_37 : decode cX8_set 37 = .ok (.bipush (-2), 2) := by decide +kernel
theorem dX8_set_39 : decode cX8_set 39 = .ok (.ireturn, 1) := by decide +kernel
theorem dX8_set_40 : decode cX8_set 40 = .ok (.iload_n 1, 1) := by decide +kernel
theorem dX8_set_41 : decode cX8_set 41 = .ok (.ifCond .ne 10, 3) := by decide +kernel
theorem dX8_set_44 : decode cX8_set 44 = .ok (.aload_n 0, 1) := by decide +kernel
theorem dX8_set_45 : decode cX8_set 45 = .ok (.getfield 57, 3) := by decide +kernel
theorem dX8_set_48 : decode cX8_set 48 = .ok (.goto 7, 3) := by decide +kernel
theorem dX8_set_51 : decode cX8_set 51 = .ok (.aload_n 0, 1) := by decide +kernel
theorem dX8_set_52 : decode cX8_set 52 = .ok (.getfield 60, 3) := by decide +kernel
theorem dX8_set_55 : decode cX8_set 55 = .ok (.istore_n 3, 1) := by decide +kernel
theorem dX8_set_56 : decode cX8_set 56 = .ok (.aload_n 0, 1) := by decide +kernel
theorem dX8_set_57 : decode cX8_set 57 = .ok (.iload_n 1, 1) := by decide +kernel
theorem dX8_set_58 : decode cX8_set 58 = .ok (.ifCond .ne 7, 3) := by decide +kernel
theorem dX8_set_61 : decode cX8_set 61 = .ok (.iload_n 2, 1) := by decide +kernel
theorem dX8_set_62 : decode cX8_set 62 = .ok (.goto 7, 3) := by decide +kernel
theorem dX8_set_65 : decode cX8_set 65 = .ok (.aload_n 0, 1) := by decide +kernel
theorem dX8_set_66 : decode cX8_set 66 = .ok (.getfield 57, 3) := by decide +kernel
theorem dX8_set_69 : decode cX8_set 69 = .ok (.putfield 57, 3) := by decide +kernel
theorem dX8_set_72 : decode cX8_set 72 = .ok (.aload_n 0, 1) := by decide +kernel
theorem dX8_set_73 : decode cX8_set 73 = .ok (.iload_n 1, 1) := by decide +kernel
theorem dX8_set_74 : decode cX8_set 74 = .ok (.iconst 1, 1) := by decide +kernel
theorem dX8_set_75 : decode cX8_set 75 = .ok (.if_icmp .ne 7, 3) := by decide +kernel
theorem dX8_set_78 : decode cX8_set 78 = .ok (.iload_n 2, 1) := by decide +kernel
theorem dX8_set_79 : decode cX8_set 79 = .ok (.goto 7, 3) := by decide +kernel
theorem dX8_set_82 : decode cX8_set 82 = .ok (.aload_n 0, 1) := by decide +kernel
theorem dX8_set_83 : decode cX8_set 83 = .ok (.getfield 60, 3) := by decide +kernel
theorem dX8_set_86 : decode cX8_set 86 = .ok (.putfield 60, 3) := by decide +kernel
theorem dX8_set_89 : decode cX8_set 89 = .ok (.iload_n 3, 1) := by decide +kernel
theorem dX8_set_90 : decode cX8_set 90 = .ok (.ireturn, 1) := by decide +kernel
theorem dX8_correct_0 : decode cX8_correct 0 = .ok (.iload_n 2, 1) := by decide +kernel
theorem dX8_correct_1 : decode cX8_correct 1 = .ok (.iconst (-1), 1) := by decide +kernel
theorem dX8_correct_2 : decode cX8_correct 2 = .ok (.bipush 6, 2) := by decide +kernel
theorem dX8_correct_4 : decode cX8_correct 4 = .ok (.invokestatic 100, 3) := by decide +kernel
theorem dX8_correct_7 : decode cX8_correct 7 = .ok (.ifCond .ne 6, 3) := by decide +kernel
theorem dX8_correct_10 : decode cX8_correct 10 = .ok (.bipush (-2), 2) := by decide +kernel
theorem dX8_correct_12 : decode cX8_correct 12 = .ok (.ireturn, 1) := by decide +kernel
theorem dX8_correct_13 : decode cX8_correct 13 = .ok (.aload_n 0, 1) := by decide +kernel
theorem dX8_correct_14 : decode cX8_correct 14 = .ok (.getfield 17, 3) := by decide +kernel
theorem dX8_correct_17 : decode cX8_correct 17 = .ok (.iconst (-1), 1) := by decide +kernel
theorem dX8_correct_18 : decode cX8_correct 18 = .ok (.if_icmp .ne 6, 3) := by decide +kernel
theorem dX8_correct_21 : decode cX8_correct 21 = .ok (.bipush (-3), 2) := by decide +kernel
theorem dX8_correct_23 : decode cX8_correct 23 = .ok (.ireturn, 1) := by decide +kernel
theorem dX8_correct_24 : decode cX8_correct 24 = .ok (.aload_n 0, 1) := by decide +kernel
theorem dX8_correct_25 : decode cX8_correct 25 = .ok (.iload_n 1, 1) := by decide +kernel
theorem dX8_correct_26 : decode cX8_correct 26 = .ok (.invokevirtual 146, 3) := by decide +kernel
theorem dX8_correct_29 : decode cX8_correct 29 = .ok (.ifCond .ne 6, 3) := by decide +kernel
theorem dX8_correct_32 : decode cX8_correct 32 = .ok (.bipush (-2), 2) := by decide +kernel
theorem dX8_correct_34 : decode cX8_correct 34 = .ok (.ireturn, 1) := by decide +kernel
theorem dX8_correct_35 : decode cX8_correct 35 = .ok (.aload_n 0, 1) := by decide +kernel
theorem dX8_correct_36 : decode cX8_correct 36 = .ok (.getfield 42, 3) := by decide +kernel
theorem dX8_correct_39 : decode cX8_correct 39 = .ok (.iload_n 1, 1) := by decide +kernel
theorem dX8_correct_40 : decode cX8_correct 40 = .ok (.iaload, 1) := by decide +kernel
theorem dX8_correct_41 : decode cX8_correct 41 = .ok (.istore_n 3, 1) := by decide +kernel
theorem dX8_correct_42 : decode cX8_correct 42 = .ok (.aload_n 0, 1) := by decide +kernel
theorem dX8_correct_43 : decode cX8_correct 43 = .ok (.getfield 42, 3) := by decide +kernel
theorem dX8_correct_46 : decode cX8_correct 46 = .ok (.iload_n 1, 1) := by decide +kernel
theorem dX8_correct_47 : decode cX8_correct 47 = .ok (.iload_n 2, 1) := by decide +kernel
theorem dX8_correct_48 : decode cX8_correct 48 = .ok (.iastore, 1) := by decide +kernel
theorem dX8_correct_49 : decode cX8_correct 49 = .ok (.iload_n 3, 1) := by decide +kernel
theorem dX8_correct_50 : decode cX8_correct 50 = .ok (.ireturn, 1) := by decide +kernel
theorem dX8_costOf_0 : decode cX8_costOf 0 = .ok (.iload_n 1, 1) := by decide +kernel
theorem dX8_costOf_1 : decode cX8_costOf 1 = .ok (.aload_n 0, 1) := by decide +kernel
theorem dX8_costOf_2 : decode cX8_costOf 2 = .ok (.getfield 81, 3) := by decide +kernel
theorem dX8_costOf_5 : decode cX8_costOf 5 = .ok (.if_icmp .ne 14, 3) := by decide +kernel
theorem dX8_costOf_8 : decode cX8_costOf 8 = .ok (.iload_n 2, 1) := by decide +kernel
theorem dX8_costOf_9 : decode cX8_costOf 9 = .ok (.aload_n 0, 1) := by decide +kernel
theorem dX8_costOf_10 : decode cX8_costOf 10 = .ok (.getfield 84, 3) := by decide +kernel
theorem dX8_costOf_13 : decode cX8_costOf 13 = .ok (.if_icmp .ne 6, 3) := by decide +kernel
theorem dX8_costOf_16 : decode cX8_costOf 16 = .ok (.ldc 154, 2) := by decide +kernel
theorem dX8_costOf_18 : decode cX8_costOf 18 = .ok (.ireturn, 1) := by decide +kernel
theorem dX8_costOf_19 : decode cX8_costOf 19 = .ok (.aload_n 0, 1) := by decide +kernel
theorem dX8_costOf_20 : decode cX8_costOf 20 = .ok (.getfield 42, 3) := by decide +kernel
theorem dX8_costOf_23 : decode cX8_costOf 23 = .ok (.iload_n 1, 1) := by decide +kernel
theorem dX8_costOf_24 : decode cX8_costOf 24 = .ok (.iaload, 1) := by decide +kernel
theorem dX8_costOf_25 : decode cX8_costOf 25 = .ok (.iconst (-1), 1) := by decide +kernel
theorem dX8_costOf_26 : decode cX8_costOf 26 = .ok (.if_icmp .eq 20, 3) := by decide +kernel
theorem dX8_costOf_29 : decode cX8_costOf 29 = .ok (.aload_n 0, 1) := by decide +kernel
theorem dX8_costOf_30 : decode cX8_costOf 30 = .ok (.getfield 42, 3) := by decide +kernel
theorem dX8_costOf_33 : decode cX8_costOf 33 = .ok (.iload_n 1, 1) := by decide +kernel
theorem dX8_costOf_34 : decode cX8_costOf 34 = .ok (.iaload, 1) := by decide +kernel
theorem dX8_costOf_35 : decode cX8_costOf 35 = .ok (.iload_n 2, 1) := by decide +kernel
theorem dX8_costOf_36 : decode cX8_costOf 36 = .ok (.if_icmp .ne 7, 3) := by decide +kernel
theorem dX8_costOf_39 : decode cX8_costOf 39 = .ok (.iconst 0, 1) := by decide +kernel
theorem dX8_costOf_40 : decode cX8_costOf 40 = .ok (.goto 5, 3) := by decide +kernel
theorem dX8_costOf_43 : decode cX8_costOf 43 = .ok (.ldc 154, 2) := by decide +kernel
theorem dX8_costOf_45 : decode cX8_costOf 45 = .ok (.ireturn, 1) := by decide +kernel
theorem dX8_costOf_46 : decode cX8_costOf 46 = .ok (.iload_n 2, 1) := by decide +kernel
theorem dX8_costOf_47 : decode cX8_costOf 47 = .ok (.bipush 6, 2) := by decide +kernel
theorem dX8_costOf_49 : decode cX8_costOf 49 = .ok (.if_icmp .ne 8, 3) := by decide +kernel
theorem dX8_costOf_52 : decode cX8_costOf 52 = .ok (.aload_n 0, 1) := by decide +kernel
theorem dX8_costOf_53 : decode cX8_costOf 53 = .ok (.getfield 57, 3) := by decide +kernel
theorem dX8_costOf_56 : decode cX8_costOf 56 = .ok (.ireturn, 1) := by decide +kernel
theorem dX8_costOf_57 : decode cX8_costOf 57 = .ok (.aload_n 0, 1) := by decide +kernel
theorem dX8_costOf_58 : decode cX8_costOf 58 = .ok (.getfield 23, 3) := by decide +kernel
theorem dX8_costOf_61 : decode cX8_costOf 61 = .ok (.iload_n 1, 1) := by decide +kernel
theorem dX8_costOf_62 : decode cX8_costOf 62 = .ok (.iaload, 1) := by decide +kernel
theorem dX8_costOf_63 : decode cX8_costOf 63 = .ok (.aload_n 0, 1) := by decide +kernel
theorem dX8_costOf_64 : decode cX8_costOf 64 = .ok (.getfield 45, 3) := by decide +kernel
theorem dX8_costOf_67 : decode cX8_costOf 67 = .ok (.iload_n 2, 1) := by decide +kernel
theorem dX8_costOf_68 : decode cX8_costOf 68 = .ok (.iaload, 1) := by decide +kernel
theorem dX8_costOf_69 : decode cX8_costOf 69 = .ok (.if_icmp .ge 19, 3) := by decide +kernel
theorem dX8_costOf_72 : decode cX8_costOf 72 = .ok (.aload_n 0, 1) := by decide +kernel
theorem dX8_costOf_73 : decode cX8_costOf 73 = .ok (.getfield 45, 3) := by decide +kernel
theorem dX8_costOf_76 : decode cX8_costOf 76 = .ok (.iload_n 2, 1) := by decide +kernel
theorem dX8_costOf_77 : decode cX8_costOf 77 = .ok (.iaload, 1) := by decide +kernel
theorem dX8_costOf_78 : decode cX8_costOf 78 = .ok (.aload_n 0, 1) := by decide +kernel
theorem dX8_costOf_79 : decode cX8_costOf 79 = .ok (.getfield 23, 3) := by decide +kernel
theorem dX8_costOf_82 : decode cX8_costOf 82 = .ok (.iload_n 1, 1) := by decide +kernel
theorem dX8_costOf_83 : decode cX8_costOf 83 = .ok (.iaload, 1) := by decide +kernel
theorem dX8_costOf_84 : decode cX8_costOf 84 = .ok (.isub, 1) := by decide +kernel
theorem dX8_costOf_85 : decode cX8_costOf 85 = .ok (.goto 35, 3) := by decide +kernel
theorem dX8_costOf_88 : decode cX8_costOf 88 = .ok (.aload_n 0, 1) := by decide +kernel
theorem dX8_costOf_89 : decode cX8_costOf 89 = .ok (.getfield 23, 3) := by decide +kernel
theorem dX8_costOf_92 : decode cX8_costOf 92 = .ok (.iload_n 1, 1) := by decide +kernel
theorem dX8_costOf_93 : decode cX8_costOf 93 = .ok (.iaload, 1) := by decide +kernel
theorem dX8_costOf_94 : decode cX8_costOf 94 = .ok (.aload_n 0, 1) := by decide +kernel
theorem dX8_costOf_95 : decode cX8_costOf 95 = .ok (.getfield 48, 3) := by decide +kernel
theorem dX8_costOf_98 : decode cX8_costOf 98 = .ok (.iload_n 2, 1) := by decide +kernel
theorem dX8_costOf_99 : decode cX8_costOf 99 = .ok (.iaload, 1) := by decide +kernel
theorem dX8_costOf_100 : decode cX8_costOf 100 = .ok (.if_icmp .le 19, 3) := by decide +kernel
theorem dX8_costOf_103 : decode cX8_costOf 103 = .ok (.aload_n 0, 1) := by decide +kernel
theorem dX8_costOf_104 : decode cX8_costOf 104 = .ok (.getfield 23, 3) := by decide +kernel
theorem dX8_costOf_107 : decode cX8_costOf 107 = .ok (.iload_n 1, 1) := by decide +kernel
theorem dX8_costOf_108 : decode cX8_costOf 108 = .ok (.iaload, 1) := by decide +kernel
theorem dX8_costOf_109 : decode cX8_costOf 109 = .ok (.aload_n 0, 1) := by decide +kernel
theorem dX8_costOf_110 : decode cX8_costOf 110 = .ok (.getfield 48, 3) := by decide +kernel
theorem dX8_costOf_113 : decode cX8_costOf 113 = .ok (.iload_n 2, 1) := by decide +kernel
theorem dX8_costOf_114 : decode cX8_costOf 114 = .ok (.iaload, 1) := by decide +kernel
theorem dX8_costOf_115 : decode cX8_costOf 115 = .ok (.isub, 1) := by decide +kernel
theorem dX8_costOf_116 : decode cX8_costOf 116 = .ok (.goto 4, 3) := by decide +kernel
theorem dX8_costOf_119 : decode cX8_costOf 119 = .ok (.iconst 0, 1) := by decide +kernel
theorem dX8_costOf_120 : decode cX8_costOf 120 = .ok (.istore_n 3, 1) := by decide +kernel
theorem dX8_costOf_121 : decode cX8_costOf 121 = .ok (.aload_n 0, 1) := by decide +kernel
theorem dX8_costOf_122 : decode cX8_costOf 122 = .ok (.getfield 51, 3) := by decide +kernel
theorem dX8_costOf_125 : decode cX8_costOf 125 = .ok (.iload_n 2, 1) := by decide +kernel
theorem dX8_costOf_126 : decode cX8_costOf 126 = .ok (.iaload, 1) := by decide +kernel
theorem dX8_costOf_127 : decode cX8_costOf 127 = .ok (.aload_n 0, 1) := by decide +kernel
theorem dX8_costOf_128 : decode cX8_costOf 128 = .ok (.getfield 36, 3) := by decide +kernel
theorem dX8_costOf_131 : decode cX8_costOf 131 = .ok (.iload_n 1, 1) := by decide +kernel
theorem dX8_costOf_132 : decode cX8_costOf 132 = .ok (.iaload, 1) := by decide +kernel
theorem dX8_costOf_133 : decode cX8_costOf 133 = .ok (.aload_n 0, 1) := by decide +kernel
theorem dX8_costOf_134 : decode cX8_costOf 134 = .ok (.getfield 30, 3) := by decide +kernel
theorem dX8_costOf_137 : decode cX8_costOf 137 = .ok (.iload_n 1, 1) := by decide +kernel
theorem dX8_costOf_138 : decode cX8_costOf 138 = .ok (.iaload, 1) := by decide +kernel
theorem dX8_costOf_139 : decode cX8_costOf 139 = .ok (.isub, 1) := by decide +kernel
theorem dX8_costOf_140 : decode cX8_costOf 140 = .ok (.iconst 1, 1) := by decide +kernel
theorem dX8_costOf_141 : decode cX8_costOf 141 = .ok (.iadd, 1) := by decide +kernel
theorem dX8_costOf_142 : decode cX8_costOf 142 = .ok (.isub, 1) := by decide +kernel
theorem dX8_costOf_143 : decode cX8_costOf 143 = .ok (.istore 4, 2) := by decide +kernel
theorem dX8_costOf_145 : decode cX8_costOf 145 = .ok (.aload_n 0, 1) := by decide +kernel
theorem dX8_costOf_146 : decode cX8_costOf 146 = .ok (.getfield 54, 3) := by decide +kernel
theorem dX8_costOf_149 : decode cX8_costOf 149 = .ok (.iload_n 2, 1) := by decide +kernel
theorem dX8_costOf_150 : decode cX8_costOf 150 = .ok (.iaload, 1) := by decide +kernel
theorem dX8_costOf_151 : decode cX8_costOf 151 = .ok (.iload_n 3, 1) := by decide +kernel
theorem dX8_costOf_152 : decode cX8_costOf 152 = .ok (.iadd, 1) := by decide +kernel
theorem dX8_costOf_153 : decode cX8_costOf 153 = .ok (.iload 4, 2) := by decide +kernel
theorem dX8_costOf_155 : decode cX8_costOf 155 = .ok (.ifCond .le 10, 3) := by decide +kernel
theorem dX8_costOf_158 : decode cX8_costOf 158 = .ok (.iconst 5, 1) := by decide +kernel
theorem dX8_costOf_159 : decode cX8_costOf 159 = .ok (.iload 4, 2) := by decide +kernel
theorem dX8_costOf_161 : decode cX8_costOf 161 = .ok (.imul, 1) := by decide +kernel
theorem dX8_costOf_162 : decode cX8_costOf 162 = .ok (.goto 4, 3) := by decide +kernel
theorem dX8_costOf_165 : decode cX8_costOf 165 = .ok (.iconst 0, 1) := by decide +kernel
theorem dX8_costOf_166 : decode cX8_costOf 166 = .ok (.iadd, 1) := by decide +kernel
theorem dX8_costOf_167 : decode cX8_costOf 167 = .ok (.ireturn, 1) := by decide +kernel
theorem dX8_restAt_0 : decode cX8_restAt 0 = .ok (.bipush 49, 2) := by decide +kernel
theorem dX8_restAt_2 : decode cX8_restAt 2 = .ok (.iload_n 0, 1) := by decide +kernel
theorem dX8_restAt_3 : decode cX8_restAt 3 = .ok (.imul, 1) := by decide +kernel
theorem dX8_restAt_4 : decode cX8_restAt 4 = .ok (.iload_n 1, 1) := by decide +kernel
theorem dX8_restAt_5 : decode cX8_restAt 5 = .ok (.iadd, 1) := by decide +kernel
theorem dX8_restAt_6 : decode cX8_restAt 6 = .ok (.iconst 3, 1) := by decide +kernel
theorem dX8_restAt_7 : decode cX8_restAt 7 = .ok (.imul, 1) := by decide +kernel
theorem dX8_restAt_8 : decode cX8_restAt 8 = .ok (.iload_n 2, 1) := by decide +kernel
theorem dX8_restAt_9 : decode cX8_restAt 9 = .ok (.iadd, 1) := by decide +kernel
theorem dX8_restAt_10 : decode cX8_restAt 10 = .ok (.ireturn, 1) := by decide +kernel
theorem dX8_timeOf_0 : decode cX8_timeOf 0 = .ok (.iload_n 0, 1) := by decide +kernel
theorem dX8_timeOf_1 : decode cX8_timeOf 1 = .ok (.iconst 1, 1) := by decide +kernel
theorem dX8_timeOf_2 : decode cX8_timeOf 2 = .ok (.if_icmp .ne 8, 3) := by decide +kernel
theorem dX8_timeOf_5 : decode cX8_timeOf 5 = .ok (.bipush 8, 2) := by decide +kernel
theorem dX8_timeOf_7 : decode cX8_timeOf 7 = .ok (.goto 14, 3) := by decide +kernel
theorem dX8_timeOf_10 : decode cX8_timeOf 10 = .ok (.iload_n 0, 1) := by decide +kernel
theorem dX8_timeOf_11 : decode cX8_timeOf 11 = .ok (.iconst 2, 1) := by decide +kernel
theorem dX8_timeOf_12 : decode cX8_timeOf 12 = .ok (.if_icmp .ne 8, 3) := by decide +kernel
theorem dX8_timeOf_15 : decode cX8_timeOf 15 = .ok (.bipush 16, 2) := by decide +kernel
theorem dX8_timeOf_17 : decode cX8_timeOf 17 = .ok (.goto 4, 3) := by decide +kernel
theorem dX8_timeOf_20 : decode cX8_timeOf 20 = .ok (.iconst 4, 1) := by decide +kernel
theorem dX8_timeOf_21 : decode cX8_timeOf 21 = .ok (.ireturn, 1) := by decide +kernel
theorem dX8_withKind_0 : decode cX8_withKind 0 = .ok (.aload_n 0, 1) := by decide +kernel
theorem dX8_withKind_1 : decode cX8_withKind 1 = .ok (.iload_n 1, 1) := by decide +kernel
theorem dX8_withKind_2 : decode cX8_withKind 2 = .ok (.iload 4, 2) := by decide +kernel
theorem dX8_withKind_4 : decode cX8_withKind 4 = .ok (.invokevirtual 155, 3) := by decide +kernel
theorem dX8_withKind_7 : decode cX8_withKind 7 = .ok (.istore 5, 2) := by decide +kernel
theorem dX8_withKind_9 : decode cX8_withKind 9 = .ok (.iload 5, 2) := by decide +kernel
theorem dX8_withKind_11 : decode cX8_withKind 11 = .ok (.ldc 154, 2) := by decide +kernel
theorem dX8_withKind_13 : decode cX8_withKind 13 = .ok (.if_icmp .ne 6, 3) := by decide +kernel
theorem dX8_withKind_16 : decode cX8_withKind 16 = .ok (.ldc 154, 2) := by decide +kernel
theorem dX8_withKind_18 : decode cX8_withKind 18 = .ok (.ireturn, 1) := by decide +kernel
theorem dX8_withKind_19 : decode cX8_withKind 19 = .ok (.iload 4, 2) := by decide +kernel
theorem dX8_withKind_21 : decode cX8_withKind 21 = .ok (.bipush 6, 2) := by decide +kernel
theorem dX8_withKind_23 : decode cX8_withKind 23 = .ok (.if_icmp .ne 20, 3) := by decide +kernel
theorem dX8_withKind_26 : decode cX8_withKind 26 = .ok (.iload 5, 2) := by decide +kernel
theorem dX8_withKind_28 : decode cX8_withKind 28 = .ok (.aload_n 0, 1) := by decide +kernel
theorem dX8_withKind_29 : decode cX8_withKind 29 = .ok (.getfield 78, 3) := by decide +kernel
theorem dX8_withKind_32 : decode cX8_withKind 32 = .ok (.iload_n 1, 1) := by decide +kernel
theorem dX8_withKind_33 : decode cX8_withKind 33 = .ok (.iconst 1, 1) := by decide +kernel
theorem dX8_withKind_34 : decode cX8_withKind 34 = .ok (.iadd, 1) := by decide +kernel
theorem dX8_withKind_35 : decode cX8_withKind 35 = .ok (.iload_n 2, 1) := by decide +kernel
theorem dX8_withKind_36 : decode cX8_withKind 36 = .ok (.iload_n 3, 1) := by decide +kernel
theorem dX8_withKind_37 : decode cX8_withKind 37 = .ok (.invokestatic 159, 3) := by decide +kernel
theorem dX8_withKind_40 : decode cX8_withKind 40 = .ok (.iaload, 1) := by decide +kernel
theorem dX8_withKind_41 : decode cX8_withKind 41 = .ok (.iadd, 1) := by decide +kernel
theorem dX8_withKind_42 : decode cX8_withKind 42 = .ok (.ireturn, 1) := by decide +kernel
theorem dX8_withKind_43 : decode cX8_withKind 43 = .ok (.iload 4, 2) := by decide +kernel
theorem dX8_withKind_45 : decode cX8_withKind 45 = .ok (.iconst 5, 1) := by decide +kernel
theorem dX8_withKind_46 : decode cX8_withKind 46 = .ok (.if_icmp .ne 37, 3) := by decide +kernel
theorem dX8_withKind_49 : decode cX8_withKind 49 = .ok (.iload_n 2, 1) := by decide +kernel
theorem dX8_withKind_50 : decode cX8_withKind 50 = .ok (.ifCond .eq 11, 3) := by decide +kernel
theorem dX8_withKind_53 : decode cX8_withKind 53 = .ok (.iload_n 2, 1) := by decide +kernel
theorem dX8_withKind_54 : decode cX8_withKind 54 = .ok (.aload_n 0, 1) := by decide +kernel
theorem dX8_withKind_55 : decode cX8_withKind 55 = .ok (.getfield 60, 3) := by decide +kernel
theorem dX8_withKind_58 : decode cX8_withKind 58 = .ok (.if_icmp .ne 22, 3) := by decide +kernel
theorem dX8_withKind_61 : decode cX8_withKind 61 = .ok (.iload 5, 2) := by decide +kernel
theorem dX8_withKind_63 : decode cX8_withKind 63 = .ok (.aload_n 0, 1) := by decide +kernel
theorem dX8_withKind_64 : decode cX8_withKind 64 = .ok (.getfield 78, 3) := by decide +kernel
theorem dX8_withKind_67 : decode cX8_withKind 67 = .ok (.iload_n 1, 1) := by decide +kernel
theorem dX8_withKind_68 : decode cX8_withKind 68 = .ok (.iconst 1, 1) := by decide +kernel
theorem dX8_withKind_69 : decode cX8_withKind 69 = .ok (.iadd, 1) := by decide +kernel
theorem dX8_withKind_70 : decode cX8_withKind 70 = .ok (.iconst 0, 1) := by decide +kernel
theorem dX8_withKind_71 : decode cX8_withKind 71 = .ok (.iconst 0, 1) := by decide +kernel
theorem dX8_withKind_72 : decode cX8_withKind 72 = .ok (.invokestatic 159, 3) := by decide +kernel
theorem dX8_withKind_75 : decode cX8_withKind 75 = .ok (.iaload, 1) := by decide +kernel
theorem dX8_withKind_76 : decode cX8_withKind 76 = .ok (.iadd, 1) := by decide +kernel
theorem dX8_withKind_77 : decode cX8_withKind 77 = .ok (.goto 5, 3) := by decide +kernel
theorem dX8_withKind_80 : decode cX8_withKind 80 = .ok (.ldc 154, 2) := by decide +kernel
theorem dX8_withKind_82 : decode cX8_withKind 82 = .ok (.ireturn, 1) := by decide +kernel
theorem dX8_withKind_83 : decode cX8_withKind 83 = .ok (.iload 4, 2) := by decide +kernel
theorem dX8_withKind_85 : decode cX8_withKind 85 = .ok (.iconst 4, 1) := by decide +kernel
theorem dX8_withKind_86 : decode cX8_withKind 86 = .ok (.if_icmp .ne 18, 3) := by decide +kernel
theorem dX8_withKind_89 : decode cX8_withKind 89 = .ok (.iload_n 3, 1) := by decide +kernel
theorem dX8_withKind_90 : decode cX8_withKind 90 = .ok (.ifCond .ne 8, 3) := by decide +kernel
theorem dX8_withKind_93 : decode cX8_withKind 93 = .ok (.bipush 100, 2) := by decide +kernel
theorem dX8_withKind_95 : decode cX8_withKind 95 = .ok (.goto 14, 3) := by decide +kernel
theorem dX8_withKind_98 : decode cX8_withKind 98 = .ok (.iconst 2, 1) := by decide +kernel
theorem dX8_withKind_99 : decode cX8_withKind 99 = .ok (.iload_n 3, 1) := by decide +kernel
theorem dX8_withKind_100 : decode cX8_withKind 100 = .ok (.imul, 1) := by decide +kernel
theorem dX8_withKind_101 : decode cX8_withKind 101 = .ok (.goto 8, 3) := by decide +kernel
theorem dX8_withKind_104 : decode cX8_withKind 104 = .ok (.iload 4, 2) := by decide +kernel
theorem dX8_withKind_106 : decode cX8_withKind 106 = .ok (.invokestatic 163, 3) := by decide +kernel
theorem dX8_withKind_109 : decode cX8_withKind 109 = .ok (.istore 6, 2) := by decide +kernel
theorem dX8_withKind_111 : decode cX8_withKind 111 = .ok (.iload_n 2, 1) := by decide +kernel
theorem dX8_withKind_112 : decode cX8_withKind 112 = .ok (.iload 6, 2) := by decide +kernel
theorem dX8_withKind_114 : decode cX8_withKind 114 = .ok (.iadd, 1) := by decide +kernel
theorem dX8_withKind_115 : decode cX8_withKind 115 = .ok (.aload_n 0, 1) := by decide +kernel
theorem dX8_withKind_116 : decode cX8_withKind 116 = .ok (.getfield 60, 3) := by decide +kernel
theorem dX8_withKind_119 : decode cX8_withKind 119 = .ok (.if_icmp .le 6, 3) := by decide +kernel
theorem dX8_withKind_122 : decode cX8_withKind 122 = .ok (.ldc 154, 2) := by decide +kernel
theorem dX8_withKind_124 : decode cX8_withKind 124 = .ok (.ireturn, 1) := by decide +kernel
theorem dX8_withKind_125 : decode cX8_withKind 125 = .ok (.iload 5, 2) := by decide +kernel
theorem dX8_withKind_127 : decode cX8_withKind 127 = .ok (.aload_n 0, 1) := by decide +kernel
theorem dX8_withKind_128 : decode cX8_withKind 128 = .ok (.getfield 78, 3) := by decide +kernel
theorem dX8_withKind_131 : decode cX8_withKind 131 = .ok (.iload_n 1, 1) := by decide +kernel
theorem dX8_withKind_132 : decode cX8_withKind 132 = .ok (.iconst 1, 1) := by decide +kernel
theorem dX8_withKind_133 : decode cX8_withKind 133 = .ok (.iadd, 1) := by decide +kernel
theorem dX8_withKind_134 : decode cX8_withKind 134 = .ok (.iload_n 2, 1) := by decide +kernel
theorem dX8_withKind_135 : decode cX8_withKind 135 = .ok (.iload 6, 2) := by decide +kernel
theorem dX8_withKind_137 : decode cX8_withKind 137 = .ok (.iadd, 1) := by decide +kernel
theorem dX8_withKind_138 : decode cX8_withKind 138 = .ok (.iload 4, 2) := by decide +kernel
theorem dX8_withKind_140 : decode cX8_withKind 140 = .ok (.ifCond .ne 7, 3) := by decide +kernel
theorem dX8_withKind_143 : decode cX8_withKind 143 = .ok (.iconst 1, 1) := by decide +kernel
theorem dX8_withKind_144 : decode cX8_withKind 144 = .ok (.goto 14, 3) := by decide +kernel
theorem dX8_withKind_147 : decode cX8_withKind 147 = .ok (.iload 4, 2) := by decide +kernel
theorem dX8_withKind_149 : decode cX8_withKind 149 = .ok (.iconst 1, 1) := by decide +kernel
theorem dX8_withKind_150 : decode cX8_withKind 150 = .ok (.if_icmp .ne 7, 3) := by decide +kernel
theorem dX8_withKind_153 : decode cX8_withKind 153 = .ok (.iconst 2, 1) := by decide +kernel
theorem dX8_withKind_154 : decode cX8_withKind 154 = .ok (.goto 4, 3) := by decide +kernel
theorem dX8_withKind_157 : decode cX8_withKind 157 = .ok (.iconst 0, 1) := by decide +kernel
theorem dX8_withKind_158 : decode cX8_withKind 158 = .ok (.invokestatic 159, 3) := by decide +kernel
theorem dX8_withKind_161 : decode cX8_withKind 161 = .ok (.iaload, 1) := by decide +kernel
theorem dX8_withKind_162 : decode cX8_withKind 162 = .ok (.iadd, 1) := by decide +kernel
theorem dX8_withKind_163 : decode cX8_withKind 163 = .ok (.ireturn, 1) := by decide +kernel
theorem dX8_leastNow_0 : decode cX8_leastNow 0 = .ok (.aload_n 0, 1) := by decide +kernel
theorem dX8_leastNow_1 : decode cX8_leastNow 1 = .ok (.getfield 17, 3) := by decide +kernel
theorem dX8_leastNow_4 : decode cX8_leastNow 4 = .ok (.istore_n 1, 1) := by decide +kernel
theorem dX8_leastNow_5 : decode cX8_leastNow 5 = .ok (.iload_n 1, 1) := by decide +kernel
theorem dX8_leastNow_6 : decode cX8_leastNow 6 = .ok (.ifCond .lt 130, 3) := by decide +kernel
theorem dX8_leastNow_9 : decode cX8_leastNow 9 = .ok (.iconst 0, 1) := by decide +kernel
theorem dX8_leastNow_10 : decode cX8_leastNow 10 = .ok (.istore_n 2, 1) := by decide +kernel
theorem dX8_leastNow_11 : decode cX8_leastNow 11 = .ok (.iload_n 2, 1) := by decide +kernel
theorem dX8_leastNow_12 : decode cX8_leastNow 12 = .ok (.aload_n 0, 1) := by decide +kernel
theorem dX8_leastNow_13 : decode cX8_leastNow 13 = .ok (.getfield 60, 3) := by decide +kernel
theorem dX8_leastNow_16 : decode cX8_leastNow 16 = .ok (.if_icmp .gt 114, 3) := by decide +kernel
theorem dX8_leastNow_19 : decode cX8_leastNow 19 = .ok (.iconst 0, 1) := by decide +kernel
theorem dX8_leastNow_20 : decode cX8_leastNow 20 = .ok (.istore_n 3, 1) := by decide +kernel
theorem dX8_leastNow_21 : decode cX8_leastNow 21 = .ok (.iload_n 3, 1) := by decide +kernel
theorem dX8_leastNow_22 : decode cX8_leastNow 22 = .ok (.iconst 3, 1) := by decide +kernel
theorem dX8_leastNow_23 : decode cX8_leastNow 23 = .ok (.if_icmp .ge 101, 3) := by decide +kernel
theorem dX8_leastNow_26 : decode cX8_leastNow 26 = .ok (.iload_n 1, 1) := by decide +kernel
theorem dX8_leastNow_27 : decode cX8_leastNow 27 = .ok (.aload_n 0, 1) := by decide +kernel
theorem dX8_leastNow_28 : decode cX8_leastNow 28 = .ok (.getfield 17, 3) := by decide +kernel
theorem dX8_leastNow_31 : decode cX8_leastNow 31 = .ok (.if_icmp .ne 19, 3) := by decide +kernel
theorem dX8_leastNow_34 : decode cX8_leastNow 34 = .ok (.iload_n 2, 1) := by decide +kernel
theorem dX8_leastNow_35 : decode cX8_leastNow 35 = .ok (.ifCond .eq 11, 3) := by decide +kernel
theorem dX8_leastNow_38 : decode cX8_leastNow 38 = .ok (.iload_n 2, 1) := by decide +kernel
theorem dX8_leastNow_39 : decode cX8_leastNow 39 = .ok (.aload_n 0, 1) := by decide +kernel
theorem dX8_leastNow_40 : decode cX8_leastNow 40 = .ok (.getfield 60, 3) := by decide +kernel
theorem dX8_leastNow_43 : decode cX8_leastNow 43 = .ok (.if_icmp .ne 7, 3) := by decide +kernel
theorem dX8_leastNow_46 : decode cX8_leastNow 46 = .ok (.iconst 0, 1) := by decide +kernel
theorem dX8_leastNow_47 : decode cX8_leastNow 47 = .ok (.goto 5, 3) := by decide +kernel
theorem dX8_leastNow_50 : decode cX8_leastNow 50 = .ok (.ldc 154, 2) := by decide +kernel
theorem dX8_leastNow_52 : decode cX8_leastNow 52 = .ok (.istore 4, 2) := by decide +kernel
theorem dX8_leastNow_54 : decode cX8_leastNow 54 = .ok (.iconst 0, 1) := by decide +kernel
theorem dX8_leastNow_55 : decode cX8_leastNow 55 = .ok (.istore 5, 2) := by decide +kernel
theorem dX8_leastNow_57 : decode cX8_leastNow 57 = .ok (.iload 5, 2) := by decide +kernel
theorem dX8_leastNow_59 : decode cX8_leastNow 59 = .ok (.bipush 6, 2) := by decide +kernel
theorem dX8_leastNow_61 : decode cX8_leastNow 61 = .ok (.if_icmp .gt 44, 3) := by decide +kernel
theorem dX8_leastNow_64 : decode cX8_leastNow 64 = .ok (.iload_n 1, 1) := by decide +kernel
theorem dX8_leastNow_65 : decode cX8_leastNow 65 = .ok (.aload_n 0, 1) := by decide +kernel
theorem dX8_leastNow_66 : decode cX8_leastNow 66 = .ok (.getfield 17, 3) := by decide +kernel
theorem dX8_leastNow_69 : decode cX8_leastNow 69 = .ok (.if_icmp .ge 36, 3) := by decide +kernel
theorem dX8_leastNow_72 : decode cX8_leastNow 72 = .ok (.aload_n 0, 1) := by decide +kernel
theorem dX8_leastNow_73 : decode cX8_leastNow 73 = .ok (.iload_n 1, 1) := by decide +kernel
theorem dX8_leastNow_74 : decode cX8_leastNow 74 = .ok (.iload_n 2, 1) := by decide +kernel
theorem dX8_leastNow_75 : decode cX8_leastNow 75 = .ok (.iload_n 3, 1) := by decide +kernel
theorem dX8_leastNow_76 : decode cX8_leastNow 76 = .ok (.iload 5, 2) := by decide +kernel
theorem dX8_leastNow_78 : decode cX8_leastNow 78 = .ok (.invokevirtual 166, 3) := by decide +kernel
theorem dX8_leastNow_81 : decode cX8_leastNow 81 = .ok (.istore 6, 2) := by decide +kernel
theorem dX8_leastNow_83 : decode cX8_leastNow 83 = .ok (.iload 6, 2) := by decide +kernel
theorem dX8_leastNow_85 : decode cX8_leastNow 85 = .ok (.iload 4, 2) := by decide +kernel
theorem dX8_leastNow_87 : decode cX8_leastNow 87 = .ok (.if_icmp .ge 8, 3) := by decide +kernel
theorem dX8_leastNow_90 : decode cX8_leastNow 90 = .ok (.iload 6, 2) := by decide +kernel
theorem dX8_leastNow_92 : decode cX8_leastNow 92 = .ok (.goto 5, 3) := by decide +kernel
theorem dX8_leastNow_95 : decode cX8_leastNow 95 = .ok (.iload 4, 2) := by decide +kernel
theorem dX8_leastNow_97 : decode cX8_leastNow 97 = .ok (.istore 4, 2) := by decide +kernel
theorem dX8_leastNow_99 : decode cX8_leastNow 99 = .ok (.iinc 5 1, 3) := by decide +kernel
theorem dX8_leastNow_102 : decode cX8_leastNow 102 = .ok (.goto (-45), 3) := by decide +kernel
theorem dX8_leastNow_105 : decode cX8_leastNow 105 = .ok (.aload_n 0, 1) := by decide +kernel
theorem dX8_leastNow_106 : decode cX8_leastNow 106 = .ok (.getfield 78, 3) := by decide +kernel
theorem dX8_leastNow_109 : decode cX8_leastNow 109 = .ok (.iload_n 1, 1) := by decide +kernel
theorem dX8_leastNow_110 : decode cX8_leastNow 110 = .ok (.iload_n 2, 1) := by decide +kernel
theorem dX8_leastNow_111 : decode cX8_leastNow 111 = .ok (.iload_n 3, 1) := by decide +kernel
theorem dX8_leastNow_112 : decode cX8_leastNow 112 = .ok (.invokestatic 159, 3) := by decide +kernel
theorem dX8_leastNow_115 : decode cX8_leastNow 115 = .ok (.iload 4, 2) := by decide +kernel
theorem dX8_leastNow_117 : decode cX8_leastNow 117 = .ok (.iastore, 1) := by decide +kernel
theorem dX8_leastNow_118 : decode cX8_leastNow 118 = .ok (.iinc 3 1, 3) := by decide +kernel
theorem dX8_leastNow_121 : decode cX8_leastNow 121 = .ok (.goto (-100), 3) := by decide +kernel
theorem dX8_leastNow_124 : decode cX8_leastNow 124 = .ok (.iinc 2 1, 3) := by decide +kernel
theorem dX8_leastNow_127 : decode cX8_leastNow 127 = .ok (.goto (-116), 3) := by decide +kernel
theorem dX8_leastNow_130 : decode cX8_leastNow 130 = .ok (.iinc 1 (-1), 3) := by decide +kernel
theorem dX8_leastNow_133 : decode cX8_leastNow 133 = .ok (.goto (-128), 3) := by decide +kernel
theorem dX8_leastNow_136 : decode cX8_leastNow 136 = .ok (.aload_n 0, 1) := by decide +kernel
theorem dX8_leastNow_137 : decode cX8_leastNow 137 = .ok (.getfield 78, 3) := by decide +kernel
theorem dX8_leastNow_140 : decode cX8_leastNow 140 = .ok (.iconst 0, 1) := by decide +kernel
theorem dX8_leastNow_141 : decode cX8_leastNow 141 = .ok (.iaload, 1) := by decide +kernel
theorem dX8_leastNow_142 : decode cX8_leastNow 142 = .ok (.ireturn, 1) := by decide +kernel
theorem dX8_findBest_0 : decode cX8_findBest 0 = .ok (.aload_n 0, 1) := by decide +kernel
theorem dX8_findBest_1 : decode cX8_findBest 1 = .ok (.getfield 17, 3) := by decide +kernel
theorem dX8_findBest_4 : decode cX8_findBest 4 = .ok (.iconst (-1), 1) := by decide +kernel
theorem dX8_findBest_5 : decode cX8_findBest 5 = .ok (.if_icmp .ne 6, 3) := by decide +kernel
theorem dX8_findBest_8 : decode cX8_findBest 8 = .ok (.bipush (-3), 2) := by decide +kernel
theorem dX8_findBest_10 : decode cX8_findBest 10 = .ok (.ireturn, 1) := by decide +kernel
theorem dX8_findBest_11 : decode cX8_findBest 11 = .ok (.aload_n 0, 1) := by decide +kernel
theorem dX8_findBest_12 : decode cX8_findBest 12 = .ok (.invokevirtual 170, 3) := by decide +kernel
theorem dX8_findBest_15 : decode cX8_findBest 15 = .ok (.istore_n 1, 1) := by decide +kernel
theorem dX8_findBest_16 : decode cX8_findBest 16 = .ok (.iload_n 1, 1) := by decide +kernel
theorem dX8_findBest_17 : decode cX8_findBest 17 = .ok (.ldc 154, 2) := by decide +kernel
theorem dX8_findBest_19 : decode cX8_findBest 19 = .ok (.if_icmp .lt 6, 3) := by decide +kernel
theorem dX8_findBest_22 : decode cX8_findBest 22 = .ok (.bipush (-3), 2) := by decide +kernel
theorem dX8_findBest_24 : decode cX8_findBest 24 = .ok (.ireturn, 1) := by decide +kernel
theorem dX8_findBest_25 : decode cX8_findBest 25 = .ok (.iconst 0, 1) := by decide +kernel
theorem dX8_findBest_26 : decode cX8_findBest 26 = .ok (.istore_n 2, 1) := by decide +kernel
theorem dX8_findBest_27 : decode cX8_findBest 27 = .ok (.iconst 0, 1) := by decide +kernel
theorem dX8_findBest_28 : decode cX8_findBest 28 = .ok (.istore_n 3, 1) := by decide +kernel
theorem dX8_findBest_29 : decode cX8_findBest 29 = .ok (.iconst 0, 1) := by decide +kernel
theorem dX8_findBest_30 : decode cX8_findBest 30 = .ok (.istore 4, 2) := by decide +kernel
theorem dX8_findBest_32 : decode cX8_findBest 32 = .ok (.iload 4, 2) := by decide +kernel
theorem dX8_findBest_34 : decode cX8_findBest 34 = .ok (.aload_n 0, 1) := by decide +kernel
theorem dX8_findBest_35 : decode cX8_findBest 35 = .ok (.getfield 17, 3) := by decide +kernel
theorem dX8_findBest_38 : decode cX8_findBest 38 = .ok (.if_icmp .ge 113, 3) := by decide +kernel
theorem dX8_findBest_41 : decode cX8_findBest 41 = .ok (.iconst 0, 1) := by decide +kernel
theorem dX8_findBest_42 : decode cX8_findBest 42 = .ok (.istore 5, 2) := by decide +kernel
theorem dX8_findBest_44 : decode cX8_findBest 44 = .ok (.aload_n 0, 1) := by decide +kernel
theorem dX8_findBest_45 : decode cX8_findBest 45 = .ok (.iload 4, 2) := by decide +kernel
theorem dX8_findBest_47 : decode cX8_findBest 47 = .ok (.iload_n 2, 1) := by decide +kernel
theorem dX8_findBest_48 : decode cX8_findBest 48 = .ok (.iload_n 3, 1) := by decide +kernel
theorem dX8_findBest_49 : decode cX8_findBest 49 = .ok (.iload 5, 2) := by decide +kernel
theorem dX8_findBest_51 : decode cX8_findBest 51 = .ok (.invokevirtual 166, 3) := by decide +kernel
theorem dX8_findBest_54 : decode cX8_findBest 54 = .ok (.aload_n 0, 1) := by decide +kernel
theorem dX8_findBest_55 : decode cX8_findBest 55 = .ok (.getfield 78, 3) := by decide +kernel
theorem dX8_findBest_58 : decode cX8_findBest 58 = .ok (.iload 4, 2) := by decide +kernel
theorem dX8_findBest_60 : decode cX8_findBest 60 = .ok (.iload_n 2, 1) := by decide +kernel
theorem dX8_findBest_61 : decode cX8_findBest 61 = .ok (.iload_n 3, 1) := by decide +kernel
theorem dX8_findBest_62 : decode cX8_findBest 62 = .ok (.invokestatic 159, 3) := by decide +kernel
theorem dX8_findBest_65 : decode cX8_findBest 65 = .ok (.iaload, 1) := by decide +kernel
theorem dX8_findBest_66 : decode cX8_findBest 66 = .ok (.if_icmp .eq 9, 3) := by decide +kernel
theorem dX8_findBest_69 : decode cX8_findBest 69 = .ok (.iinc 5 1, 3) := by decide +kernel
theorem dX8_findBest_72 : decode cX8_findBest 72 = .ok (.goto (-28), 3) := by decide +kernel
theorem dX8_findBest_75 : decode cX8_findBest 75 = .ok (.aload_n 0, 1) := by decide +kernel
theorem dX8_findBest_76 : decode cX8_findBest 76 = .ok (.getfield 87, 3) := by decide +kernel
theorem dX8_findBest_79 : decode cX8_findBest 79 = .ok (.iload 4, 2) := by decide +kernel
theorem dX8_findBest_81 : decode cX8_findBest 81 = .ok (.iload 5, 2) := by decide +kernel
theorem dX8_findBest_83 : decode cX8_findBest 83 = .ok (.iastore, 1) := by decide +kernel
theorem dX8_findBest_84 : decode cX8_findBest 84 = .ok (.iload 5, 2) := by decide +kernel
theorem dX8_findBest_86 : decode cX8_findBest 86 = .ok (.iconst 5, 1) := by decide +kernel
theorem dX8_findBest_87 : decode cX8_findBest 87 = .ok (.if_icmp .ne 10, 3) := by decide +kernel
theorem dX8_findBest_90 : decode cX8_findBest 90 = .ok (.iconst 0, 1) := by decide +kernel
theorem dX8_findBest_91 : decode cX8_findBest 91 = .ok (.istore_n 2, 1) := by decide +kernel
theorem dX8_findBest_92 : decode cX8_findBest 92 = .ok (.iconst 0, 1) := by decide +kernel
theorem dX8_findBest_93 : decode cX8_findBest 93 = .ok (.istore_n 3, 1) := by decide +kernel
theorem dX8_findBest_94 : decode cX8_findBest 94 = .ok (.goto 51, 3) := by decide +kernel
theorem dX8_findBest_97 : decode cX8_findBest 97 = .ok (.iload 5, 2) := by decide +kernel
theorem dX8_findBest_99 : decode cX8_findBest 99 = .ok (.bipush 6, 2) := by decide +kernel
theorem dX8_findBest_101 : decode cX8_findBest 101 = .ok (.if_icmp .eq 44, 3) := by decide +kernel
theorem dX8_findBest_104 : decode cX8_findBest 104 = .ok (.iload_n 2, 1) := by decide +kernel
theorem dX8_findBest_105 : decode cX8_findBest 105 = .ok (.iload 5, 2) := by decide +kernel
theorem dX8_findBest_107 : decode cX8_findBest 107 = .ok (.iconst 4, 1) := by decide +kernel
theorem dX8_findBest_108 : decode cX8_findBest 108 = .ok (.if_icmp .ne 9, 3) := by decide +kernel
theorem dX8_findBest_111 : decode cX8_findBest 111 = .ok (.iconst 2, 1) := by decide +kernel
theorem dX8_findBest_112 : decode cX8_findBest 112 = .ok (.iload_n 3, 1) := by decide +kernel
theorem dX8_findBest_113 : decode cX8_findBest 113 = .ok (.imul, 1) := by decide +kernel
theorem dX8_findBest_114 : decode cX8_findBest 114 = .ok (.goto 8, 3) := by decide +kernel
theorem dX8_findBest_117 : decode cX8_findBest 117 = .ok (.iload 5, 2) := by decide +kernel
theorem dX8_findBest_119 : decode cX8_findBest 119 = .ok (.invokestatic 163, 3) := by decide +kernel
theorem dX8_findBest_122 : decode cX8_findBest 122 = .ok (.iadd, 1) := by decide +kernel
theorem dX8_findBest_123 : decode cX8_findBest 123 = .ok (.istore_n 2, 1) := by decide +kernel
theorem dX8_findBest_124 : decode cX8_findBest 124 = .ok (.iload 5, 2) := by decide +kernel
theorem dX8_findBest_126 : decode cX8_findBest 126 = .ok (.ifCond .ne 7, 3) := by decide +kernel
theorem dX8_findBest_129 : decode cX8_findBest 129 = .ok (.iconst 1, 1) := by decide +kernel
theorem dX8_findBest_130 : decode cX8_findBest 130 = .ok (.goto 14, 3) := by decide +kernel
theorem dX8_findBest_133 : decode cX8_findBest 133 = .ok (.iload 5, 2) := by decide +kernel
theorem dX8_findBest_135 : decode cX8_findBest 135 = .ok (.iconst 1, 1) := by decide +kernel
theorem dX8_findBest_136 : decode cX8_findBest 136 = .ok (.if_icmp .ne 7, 3) := by decide +kernel
theorem dX8_findBest_139 : decode cX8_findBest 139 = .ok (.iconst 2, 1) := by decide +kernel
theorem dX8_findBest_140 : decode cX8_findBest 140 = .ok (.goto 4, 3) := by decide +kernel
theorem dX8_findBest_143 : decode cX8_findBest 143 = .ok (.iconst 0, 1) := by decide +kernel
theorem dX8_findBest_144 : decode cX8_findBest 144 = .ok (.istore_n 3, 1) := by decide +kernel
theorem dX8_findBest_145 : decode cX8_findBest 145 = .ok (.iinc 4 1, 3) := by decide +kernel
theorem dX8_findBest_148 : decode cX8_findBest 148 = .ok (.goto (-116), 3) := by decide +kernel
theorem dX8_findBest_151 : decode cX8_findBest 151 = .ok (.iload_n 1, 1) := by decide +kernel
theorem dX8_findBest_152 : decode cX8_findBest 152 = .ok (.ireturn, 1) := by decide +kernel
theorem dX8_best_0 : decode cX8_best 0 = .ok (.aload_n 0, 1) := by decide +kernel
theorem dX8_best_1 : decode cX8_best 1 = .ok (.invokevirtual 173, 3) := by decide +kernel
theorem dX8_best_4 : decode cX8_best 4 = .ok (.ireturn, 1) := by decide +kernel
theorem dX8_read_0 : decode cX8_read 0 = .ok (.aload_n 0, 1) := by decide +kernel
theorem dX8_read_1 : decode cX8_read 1 = .ok (.getfield 17, 3) := by decide +kernel
theorem dX8_read_4 : decode cX8_read 4 = .ok (.iconst (-1), 1) := by decide +kernel
theorem dX8_read_5 : decode cX8_read 5 = .ok (.if_icmp .ne 6, 3) := by decide +kernel
theorem dX8_read_8 : decode cX8_read 8 = .ok (.bipush (-3), 2) := by decide +kernel
theorem dX8_read_10 : decode cX8_read 10 = .ok (.ireturn, 1) := by decide +kernel
theorem dX8_read_11 : decode cX8_read 11 = .ok (.aload_n 0, 1) := by decide +kernel
theorem dX8_read_12 : decode cX8_read 12 = .ok (.iload_n 1, 1) := by decide +kernel
theorem dX8_read_13 : decode cX8_read 13 = .ok (.invokevirtual 146, 3) := by decide +kernel
theorem dX8_read_16 : decode cX8_read 16 = .ok (.ifCond .ne 6, 3) := by decide +kernel
theorem dX8_read_19 : decode cX8_read 19 = .ok (.bipush (-2), 2) := by decide +kernel
theorem dX8_read_21 : decode cX8_read 21 = .ok (.ireturn, 1) := by decide +kernel
theorem dX8_read_22 : decode cX8_read 22 = .ok (.aload_n 0, 1) := by decide +kernel
theorem dX8_read_23 : decode cX8_read 23 = .ok (.invokevirtual 173, 3) := by decide +kernel
theorem dX8_read_26 : decode cX8_read 26 = .ok (.ifCond .ge 8, 3) := by decide +kernel
theorem dX8_read_29 : decode cX8_read 29 = .ok (.bipush (-3), 2) := by decide +kernel
theorem dX8_read_31 : decode cX8_read 31 = .ok (.goto 9, 3) := by decide +kernel
theorem dX8_read_34 : decode cX8_read 34 = .ok (.aload_n 0, 1) := by decide +kernel
theorem dX8_read_35 : decode cX8_read 35 = .ok (.getfield 87, 3) := by decide +kernel
theorem dX8_read_38 : decode cX8_read 38 = .ok (.iload_n 1, 1) := by decide +kernel
theorem dX8_read_39 : decode cX8_read 39 = .ok (.iaload, 1) := by decide +kernel
theorem dX8_read_40 : decode cX8_read 40 = .ok (.ireturn, 1) := by decide +kernel
theorem dX8_doubtOf_0 : decode cX8_doubtOf 0 = .ok (.aload_n 0, 1) := by decide +kernel
theorem dX8_doubtOf_1 : decode cX8_doubtOf 1 = .ok (.iload_n 1, 1) := by decide +kernel
theorem dX8_doubtOf_2 : decode cX8_doubtOf 2 = .ok (.putfield 81, 3) := by decide +kernel
theorem dX8_doubtOf_5 : decode cX8_doubtOf 5 = .ok (.aload_n 0, 1) := by decide +kernel
theorem dX8_doubtOf_6 : decode cX8_doubtOf 6 = .ok (.aload_n 0, 1) := by decide +kernel
theorem dX8_doubtOf_7 : decode cX8_doubtOf 7 = .ok (.getfield 87, 3) := by decide +kernel
theorem dX8_doubtOf_10 : decode cX8_doubtOf 10 = .ok (.iload_n 1, 1) := by decide +kernel
theorem dX8_doubtOf_11 : decode cX8_doubtOf 11 = .ok (.iaload, 1) := by decide +kernel
theorem dX8_doubtOf_12 : decode cX8_doubtOf 12 = .ok (.putfield 84, 3) := by decide +kernel
theorem dX8_doubtOf_15 : decode cX8_doubtOf 15 = .ok (.aload_n 0, 1) := by decide +kernel
theorem dX8_doubtOf_16 : decode cX8_doubtOf 16 = .ok (.invokevirtual 170, 3) := by decide +kernel
theorem dX8_doubtOf_19 : decode cX8_doubtOf 19 = .ok (.istore_n 3, 1) := by decide +kernel
theorem dX8_doubtOf_20 : decode cX8_doubtOf 20 = .ok (.aload_n 0, 1) := by decide +kernel
theorem dX8_doubtOf_21 : decode cX8_doubtOf 21 = .ok (.iconst (-1), 1) := by decide +kernel
theorem dX8_doubtOf_22 : decode cX8_doubtOf 22 = .ok (.putfield 81, 3) := by decide +kernel
theorem dX8_doubtOf_25 : decode cX8_doubtOf 25 = .ok (.aload_n 0, 1) := by decide +kernel
theorem dX8_doubtOf_26 : decode cX8_doubtOf 26 = .ok (.iconst (-1), 1) := by decide +kernel
theorem dX8_doubtOf_27 : decode cX8_doubtOf 27 = .ok (.putfield 84, 3) := by decide +kernel
theorem dX8_doubtOf_30 : decode cX8_doubtOf 30 = .ok (.iload_n 3, 1) := by decide +kernel
theorem dX8_doubtOf_31 : decode cX8_doubtOf 31 = .ok (.ldc 154, 2) := by decide +kernel
theorem dX8_doubtOf_33 : decode cX8_doubtOf 33 = .ok (.if_icmp .lt 7, 3) := by decide +kernel
theorem dX8_doubtOf_36 : decode cX8_doubtOf 36 = .ok (.iconst (-1), 1) := by decide +kernel
theorem dX8_doubtOf_37 : decode cX8_doubtOf 37 = .ok (.goto 6, 3) := by decide +kernel
theorem dX8_doubtOf_40 : decode cX8_doubtOf 40 = .ok (.iload_n 3, 1) := by decide +kernel
theorem dX8_doubtOf_41 : decode cX8_doubtOf 41 = .ok (.iload_n 2, 1) := by decide +kernel
theorem dX8_doubtOf_42 : decode cX8_doubtOf 42 = .ok (.isub, 1) := by decide +kernel
theorem dX8_doubtOf_43 : decode cX8_doubtOf 43 = .ok (.ireturn, 1) := by decide +kernel
theorem dX8_doubt_0 : decode cX8_doubt 0 = .ok (.aload_n 0, 1) := by decide +kernel
theorem dX8_doubt_1 : decode cX8_doubt 1 = .ok (.getfield 17, 3) := by decide +kernel
theorem dX8_doubt_4 : decode cX8_doubt 4 = .ok (.iconst (-1), 1) := by decide +kernel
theorem dX8_doubt_5 : decode cX8_doubt 5 = .ok (.if_icmp .ne 6, 3) := by decide +kernel
theorem dX8_doubt_8 : decode cX8_doubt 8 = .ok (.bipush (-3), 2) := by decide +kernel
theorem dX8_doubt_10 : decode cX8_doubt 10 = .ok (.ireturn, 1) := by decide +kernel
theorem dX8_doubt_11 : decode cX8_doubt 11 = .ok (.aload_n 0, 1) := by decide +kernel
theorem dX8_doubt_12 : decode cX8_doubt 12 = .ok (.iload_n 1, 1) := by decide +kernel
theorem dX8_doubt_13 : decode cX8_doubt 13 = .ok (.invokevirtual 146, 3) := by decide +kernel
theorem dX8_doubt_16 : decode cX8_doubt 16 = .ok (.ifCond .ne 6, 3) := by decide +kernel
theorem dX8_doubt_19 : decode cX8_doubt 19 = .ok (.bipush (-2), 2) := by decide +kernel
theorem dX8_doubt_21 : decode cX8_doubt 21 = .ok (.ireturn, 1) := by decide +kernel
theorem dX8_doubt_22 : decode cX8_doubt 22 = .ok (.aload_n 0, 1) := by decide +kernel
theorem dX8_doubt_23 : decode cX8_doubt 23 = .ok (.invokevirtual 173, 3) := by decide +kernel
theorem dX8_doubt_26 : decode cX8_doubt 26 = .ok (.istore_n 2, 1) := by decide +kernel
theorem dX8_doubt_27 : decode cX8_doubt 27 = .ok (.iload_n 2, 1) := by decide +kernel
theorem dX8_doubt_28 : decode cX8_doubt 28 = .ok (.ifCond .ge 8, 3) := by decide +kernel
theorem dX8_doubt_31 : decode cX8_doubt 31 = .ok (.bipush (-3), 2) := by decide +kernel
theorem dX8_doubt_33 : decode cX8_doubt 33 = .ok (.goto 9, 3) := by decide +kernel
theorem dX8_doubt_36 : decode cX8_doubt 36 = .ok (.aload_n 0, 1) := by decide +kernel
theorem dX8_doubt_37 : decode cX8_doubt 37 = .ok (.iload_n 1, 1) := by decide +kernel
theorem dX8_doubt_38 : decode cX8_doubt 38 = .ok (.iload_n 2, 1) := by decide +kernel
theorem dX8_doubt_39 : decode cX8_doubt 39 = .ok (.invokevirtual 176, 3) := by decide +kernel
theorem dX8_doubt_42 : decode cX8_doubt 42 = .ok (.ireturn, 1) := by decide +kernel
theorem dX8_question_0 : decode cX8_question 0 = .ok (.aload_n 0, 1) := by decide +kernel
theorem dX8_question_1 : decode cX8_question 1 = .ok (.invokevirtual 173, 3) := by decide +kernel
theorem dX8_question_4 : decode cX8_question 4 = .ok (.istore_n 1, 1) := by decide +kernel
theorem dX8_question_5 : decode cX8_question 5 = .ok (.iload_n 1, 1) := by decide +kernel
theorem dX8_question_6 : decode cX8_question 6 = .ok (.ifCond .ge 6, 3) := by decide +kernel
theorem dX8_question_9 : decode cX8_question 9 = .ok (.bipush (-3), 2) := by decide +kernel
theorem dX8_question_11 : decode cX8_question 11 = .ok (.ireturn, 1) := by decide +kernel
theorem dX8_question_12 : decode cX8_question 12 = .ok (.iconst (-1), 1) := by decide +kernel
theorem dX8_question_13 : decode cX8_question 13 = .ok (.istore_n 2, 1) := by decide +kernel
theorem dX8_question_14 : decode cX8_question 14 = .ok (.ldc 154, 2) := by decide +kernel
theorem dX8_question_16 : decode cX8_question 16 = .ok (.istore_n 3, 1) := by decide +kernel
theorem dX8_question_17 : decode cX8_question 17 = .ok (.iconst 0, 1) := by decide +kernel
theorem dX8_question_18 : decode cX8_question 18 = .ok (.istore 4, 2) := by decide +kernel
theorem dX8_question_20 : decode cX8_question 20 = .ok (.iload 4, 2) := by decide +kernel
theorem dX8_question_22 : decode cX8_question 22 = .ok (.aload_n 0, 1) := by decide +kernel
theorem dX8_question_23 : decode cX8_question 23 = .ok (.getfield 17, 3) := by decide +kernel
theorem dX8_question_26 : decode cX8_question 26 = .ok (.if_icmp .ge 36, 3) := by decide +kernel
theorem dX8_question_29 : decode cX8_question 29 = .ok (.aload_n 0, 1) := by decide +kernel
theorem dX8_question_30 : decode cX8_question 30 = .ok (.iload 4, 2) := by decide +kernel
theorem dX8_question_32 : decode cX8_question 32 = .ok (.iload_n 1, 1) := by decide +kernel
theorem dX8_question_33 : decode cX8_question 33 = .ok (.invokevirtual 176, 3) := by decide +kernel
theorem dX8_question_36 : decode cX8_question 36 = .ok (.istore 5, 2) := by decide +kernel
theorem dX8_question_38 : decode cX8_question 38 = .ok (.iload 5, 2) := by decide +kernel
theorem dX8_question_40 : decode cX8_question 40 = .ok (.iconst (-1), 1) := by decide +kernel
theorem dX8_question_41 : decode cX8_question 41 = .ok (.if_icmp .eq 15, 3) := by decide +kernel
theorem dX8_question_44 : decode cX8_question 44 = .ok (.iload 5, 2) := by decide +kernel
theorem dX8_question_46 : decode cX8_question 46 = .ok (.iload_n 3, 1) := by decide +kernel
theorem dX8_question_47 : decode cX8_question 47 = .ok (.if_icmp .ge 9, 3) := by decide +kernel
theorem dX8_question_50 : decode cX8_question 50 = .ok (.iload 5, 2) := by decide +kernel
theorem dX8_question_52 : decode cX8_question 52 = .ok (.istore_n 3, 1) := by decide +kernel
theorem dX8_question_53 : decode cX8_question 53 = .ok (.iload 4, 2) := by decide +kernel
theorem dX8_question_55 : decode cX8_question 55 = .ok (.istore_n 2, 1) := by decide +kernel
theorem dX8_question_56 : decode cX8_question 56 = .ok (.iinc 4 1, 3) := by decide +kernel
theorem dX8_question_59 : decode cX8_question 59 = .ok (.goto (-39), 3) := by decide +kernel
theorem dX8_question_62 : decode cX8_question 62 = .ok (.iload_n 2, 1) := by decide +kernel
theorem dX8_question_63 : decode cX8_question 63 = .ok (.ireturn, 1) := by decide +kernel
theorem dX8_findMeasures_0 : decode cX8_findMeasures 0 = .ok (.aload_n 0, 1) := by decide +kernel
theorem dX8_findMeasures_1 : decode cX8_findMeasures 1 = .ok (.invokevirtual 173, 3) := by decide +kernel
theorem dX8_findMeasures_4 : decode cX8_findMeasures 4 = .ok (.ifCond .ge 5, 3) := by decide +kernel
theorem dX8_findMeasures_7 : decode cX8_findMeasures 7 = .ok (.iconst 0, 1) := by decide +kernel
theorem dX8_findMeasures_8 : decode cX8_findMeasures 8 = .ok (.ireturn, 1) := by decide +kernel
theorem dX8_findMeasures_9 : decode cX8_findMeasures 9 = .ok (.aload_n 0, 1) := by decide +kernel
theorem dX8_findMeasures_10 : decode cX8_findMeasures 10 = .ok (.iconst 0, 1) := by decide +kernel
theorem dX8_findMeasures_11 : decode cX8_findMeasures 11 = .ok (.putfield 179, 3) := by decide +kernel
theorem dX8_findMeasures_14 : decode cX8_findMeasures 14 = .ok (.iconst 0, 1) := by decide +kernel
theorem dX8_findMeasures_15 : decode cX8_findMeasures 15 = .ok (.istore_n 1, 1) := by decide +kernel
theorem dX8_findMeasures_16 : decode cX8_findMeasures 16 = .ok (.iconst 0, 1) := by decide +kernel
theorem dX8_findMeasures_17 : decode cX8_findMeasures 17 = .ok (.istore_n 2, 1) := by decide +kernel
theorem dX8_findMeasures_18 : decode cX8_findMeasures 18 = .ok (.iload_n 2, 1) := by decide +kernel
theorem dX8_findMeasures_19 : decode cX8_findMeasures 19 = .ok (.aload_n 0, 1) := by decide +kernel
theorem dX8_findMeasures_20 : decode cX8_findMeasures 20 = .ok (.getfield 17, 3) := by decide +kernel
theorem dX8_findMeasures_23 : decode cX8_findMeasures 23 = .ok (.if_icmp .ge 74, 3) := by decide +kernel
theorem dX8_findMeasures_26 : decode cX8_findMeasures 26 = .ok (.aload_n 0, 1) := by decide +kernel
theorem dX8_findMeasures_27 : decode cX8_findMeasures 27 = .ok (.getfield 90, 3) := by decide +kernel
theorem dX8_findMeasures_30 : decode cX8_findMeasures 30 = .ok (.iload_n 2, 1) := by decide +kernel
theorem dX8_findMeasures_31 : decode cX8_findMeasures 31 = .ok (.iconst (-1), 1) := by decide +kernel
theorem dX8_findMeasures_32 : decode cX8_findMeasures 32 = .ok (.iastore, 1) := by decide +kernel
theorem dX8_findMeasures_33 : decode cX8_findMeasures 33 = .ok (.aload_n 0, 1) := by decide +kernel
theorem dX8_findMeasures_34 : decode cX8_findMeasures 34 = .ok (.getfield 87, 3) := by decide +kernel
theorem dX8_findMeasures_37 : decode cX8_findMeasures 37 = .ok (.iload_n 2, 1) := by decide +kernel
theorem dX8_findMeasures_38 : decode cX8_findMeasures 38 = .ok (.iaload, 1) := by decide +kernel
theorem dX8_findMeasures_39 : decode cX8_findMeasures 39 = .ok (.iconst 5, 1) := by decide +kernel
theorem dX8_findMeasures_40 : decode cX8_findMeasures 40 = .ok (.if_icmp .ne 8, 3) := by decide +kernel
theorem dX8_findMeasures_43 : decode cX8_findMeasures 43 = .ok (.iconst 0, 1) := by decide +kernel
theorem dX8_findMeasures_44 : decode cX8_findMeasures 44 = .ok (.istore_n 1, 1) := by decide +kernel
theorem dX8_findMeasures_45 : decode cX8_findMeasures 45 = .ok (.goto 46, 3) := by decide +kernel
theorem dX8_findMeasures_48 : decode cX8_findMeasures 48 = .ok (.aload_n 0, 1) := by decide +kernel
theorem dX8_findMeasures_49 : decode cX8_findMeasures 49 = .ok (.getfield 87, 3) := by decide +kernel
theorem dX8_findMeasures_52 : decode cX8_findMeasures 52 = .ok (.iload_n 2, 1) := by decide +kernel
theorem dX8_findMeasures_53 : decode cX8_findMeasures 53 = .ok (.iaload, 1) := by decide +kernel
theorem dX8_findMeasures_54 : decode cX8_findMeasures 54 = .ok (.bipush 6, 2) := by decide +kernel
theorem dX8_findMeasures_56 : decode cX8_findMeasures 56 = .ok (.if_icmp .eq 35, 3) := by decide +kernel
theorem dX8_findMeasures_59 : decode cX8_findMeasures 59 = .ok (.aload_n 0, 1) := by decide +kernel
theorem dX8_findMeasures_60 : decode cX8_findMeasures 60 = .ok (.dup, 1) := by decide +kernel
theorem dX8_findMeasures_61 : decode cX8_findMeasures 61 = .ok (.getfield 179, 3) := by decide +kernel
theorem dX8_findMeasures_64 : decode cX8_findMeasures 64 = .ok (.iload_n 1, 1) := by decide +kernel
theorem dX8_findMeasures_65 : decode cX8_findMeasures 65 = .ok (.ifCond .eq 7, 3) := by decide +kernel
theorem dX8_findMeasures_68 : decode cX8_findMeasures 68 = .ok (.iconst 0, 1) := by decide +kernel
theorem dX8_findMeasures_69 : decode cX8_findMeasures 69 = .ok (.goto 4, 3) := by decide +kernel
theorem dX8_findMeasures_72 : decode cX8_findMeasures 72 = .ok (.iconst 1, 1) := by decide +kernel
theorem dX8_findMeasures_73 : decode cX8_findMeasures 73 = .ok (.iadd, 1) := by decide +kernel
theorem dX8_findMeasures_74 : decode cX8_findMeasures 74 = .ok (.putfield 179, 3) := by decide +kernel
theorem dX8_findMeasures_77 : decode cX8_findMeasures 77 = .ok (.iconst 1, 1) := by decide +kernel
theorem dX8_findMeasures_78 : decode cX8_findMeasures 78 = .ok (.istore_n 1, 1) := by decide +kernel
theorem dX8_findMeasures_79 : decode cX8_findMeasures 79 = .ok (.aload_n 0, 1) := by decide +kernel
theorem dX8_findMeasures_80 : decode cX8_findMeasures 80 = .ok (.getfield 90, 3) := by decide +kernel
theorem dX8_findMeasures_83 : decode cX8_findMeasures 83 = .ok (.iload_n 2, 1) := by decide +kernel
theorem dX8_findMeasures_84 : decode cX8_findMeasures 84 = .ok (.aload_n 0, 1) := by decide +kernel
theorem dX8_findMeasures_85 : decode cX8_findMeasures 85 = .ok (.getfield 179, 3) := by decide +kernel
theorem dX8_findMeasures_88 : decode cX8_findMeasures 88 = .ok (.iconst 1, 1) := by decide +kernel
theorem dX8_findMeasures_89 : decode cX8_findMeasures 89 = .ok (.isub, 1) := by decide +kernel
theorem dX8_findMeasures_90 : decode cX8_findMeasures 90 = .ok (.iastore, 1) := by decide +kernel
theorem dX8_findMeasures_91 : decode cX8_findMeasures 91 = .ok (.iinc 2 1, 3) := by decide +kernel
theorem dX8_findMeasures_94 : decode cX8_findMeasures 94 = .ok (.goto (-76), 3) := by decide +kernel
theorem dX8_findMeasures_97 : decode cX8_findMeasures 97 = .ok (.iconst 1, 1) := by decide +kernel
theorem dX8_findMeasures_98 : decode cX8_findMeasures 98 = .ok (.ireturn, 1) := by decide +kernel
theorem dX8_measures_0 : decode cX8_measures 0 = .ok (.aload_n 0, 1) := by decide +kernel
theorem dX8_measures_1 : decode cX8_measures 1 = .ok (.invokevirtual 182, 3) := by decide +kernel
theorem dX8_measures_4 : decode cX8_measures 4 = .ok (.ifCond .eq 10, 3) := by decide +kernel
theorem dX8_measures_7 : decode cX8_measures 7 = .ok (.aload_n 0, 1) := by decide +kernel
theorem dX8_measures_8 : decode cX8_measures 8 = .ok (.getfield 179, 3) := by decide +kernel
theorem dX8_measures_11 : decode cX8_measures 11 = .ok (.goto 5, 3) := by decide +kernel
theorem dX8_measures_14 : decode cX8_measures 14 = .ok (.bipush (-3), 2) := by decide +kernel
theorem dX8_measures_16 : decode cX8_measures 16 = .ok (.ireturn, 1) := by decide +kernel
theorem dX8_isDotted_0 : decode cX8_isDotted 0 = .ok (.iload_n 1, 1) := by decide +kernel
theorem dX8_isDotted_1 : decode cX8_isDotted 1 = .ok (.iconst 1, 1) := by decide +kernel
theorem dX8_isDotted_2 : decode cX8_isDotted 2 = .ok (.iadd, 1) := by decide +kernel
theorem dX8_isDotted_3 : decode cX8_isDotted 3 = .ok (.istore_n 2, 1) := by decide +kernel
theorem dX8_isDotted_4 : decode cX8_isDotted 4 = .ok (.iload_n 2, 1) := by decide +kernel
theorem dX8_isDotted_5 : decode cX8_isDotted 5 = .ok (.aload_n 0, 1) := by decide +kernel
theorem dX8_isDotted_6 : decode cX8_isDotted 6 = .ok (.getfield 17, 3) := by decide +kernel
theorem dX8_isDotted_9 : decode cX8_isDotted 9 = .ok (.if_icmp .ge 20, 3) := by decide +kernel
theorem dX8_isDotted_12 : decode cX8_isDotted 12 = .ok (.aload_n 0, 1) := by decide +kernel
theorem dX8_isDotted_13 : decode cX8_isDotted 13 = .ok (.getfield 87, 3) := by decide +kernel
theorem dX8_isDotted_16 : decode cX8_isDotted 16 = .ok (.iload_n 2, 1) := by decide +kernel
theorem dX8_isDotted_17 : decode cX8_isDotted 17 = .ok (.iaload, 1) := by decide +kernel
theorem dX8_isDotted_18 : decode cX8_isDotted 18 = .ok (.bipush 6, 2) := by decide +kernel
theorem dX8_isDotted_20 : decode cX8_isDotted 20 = .ok (.if_icmp .ne 9, 3) := by decide +kernel
theorem dX8_isDotted_23 : decode cX8_isDotted 23 = .ok (.iinc 2 1, 3) := by decide +kernel
theorem dX8_isDotted_26 : decode cX8_isDotted 26 = .ok (.goto (-22), 3) := by decide +kernel
theorem dX8_isDotted_29 : decode cX8_isDotted 29 = .ok (.iload_n 2, 1) := by decide +kernel
theorem dX8_isDotted_30 : decode cX8_isDotted 30 = .ok (.aload_n 0, 1) := by decide +kernel
theorem dX8_isDotted_31 : decode cX8_isDotted 31 = .ok (.getfield 17, 3) := by decide +kernel
theorem dX8_isDotted_34 : decode cX8_isDotted 34 = .ok (.if_icmp .ge 17, 3) := by decide +kernel
theorem dX8_isDotted_37 : decode cX8_isDotted 37 = .ok (.aload_n 0, 1) := by decide +kernel
theorem dX8_isDotted_38 : decode cX8_isDotted 38 = .ok (.getfield 87, 3) := by decide +kernel
theorem dX8_isDotted_41 : decode cX8_isDotted 41 = .ok (.iload_n 2, 1) := by decide +kernel
theorem dX8_isDotted_42 : decode cX8_isDotted 42 = .ok (.iaload, 1) := by decide +kernel
theorem dX8_isDotted_43 : decode cX8_isDotted 43 = .ok (.iconst 4, 1) := by decide +kernel
theorem dX8_isDotted_44 : decode cX8_isDotted 44 = .ok (.if_icmp .ne 7, 3) := by decide +kernel
theorem dX8_isDotted_47 : decode cX8_isDotted 47 = .ok (.iconst 1, 1) := by decide +kernel
theorem dX8_isDotted_48 : decode cX8_isDotted 48 = .ok (.goto 4, 3) := by decide +kernel
theorem dX8_isDotted_51 : decode cX8_isDotted 51 = .ok (.iconst 0, 1) := by decide +kernel
theorem dX8_isDotted_52 : decode cX8_isDotted 52 = .ok (.ireturn, 1) := by decide +kernel
theorem dX8_note_0 : decode cX8_note 0 = .ok (.iload_n 3, 1) := by decide +kernel
theorem dX8_note_1 : decode cX8_note 1 = .ok (.iconst 0, 1) := by decide +kernel
theorem dX8_note_2 : decode cX8_note 2 = .ok (.iconst 2, 1) := by decide +kernel
theorem dX8_note_3 : decode cX8_note 3 = .ok (.invokestatic 100, 3) := by decide +kernel
theorem dX8_note_6 : decode cX8_note 6 = .ok (.ifCond .eq 28, 3) := by decide +kernel
theorem dX8_note_9 : decode cX8_note 9 = .ok (.iload_n 2, 1) := by decide +kernel
theorem dX8_note_10 : decode cX8_note 10 = .ok (.ifCond .lt 24, 3) := by decide +kernel
theorem dX8_note_13 : decode cX8_note 13 = .ok (.aload_n 0, 1) := by decide +kernel
theorem dX8_note_14 : decode cX8_note 14 = .ok (.invokevirtual 182, 3) := by decide +kernel
theorem dX8_note_17 : decode cX8_note 17 = .ok (.ifCond .eq 17, 3) := by decide +kernel
theorem dX8_note_20 : decode cX8_note 20 = .ok (.iload_n 1, 1) := by decide +kernel
theorem dX8_note_21 : decode cX8_note 21 = .ok (.iconst 0, 1) := by decide +kernel
theorem dX8_note_22 : decode cX8_note 22 = .ok (.aload_n 0, 1) := by decide +kernel
theorem dX8_note_23 : decode cX8_note 23 = .ok (.getfield 179, 3) := by decide +kernel
theorem dX8_note_26 : decode cX8_note 26 = .ok (.iconst 1, 1) := by decide +kernel
theorem dX8_note_27 : decode cX8_note 27 = .ok (.isub, 1) := by decide +kernel
theorem dX8_note_28 : decode cX8_note 28 = .ok (.invokestatic 100, 3) := by decide +kernel
theorem dX8_note_31 : decode cX8_note 31 = .ok (.ifCond .ne 6, 3) := by decide +kernel
theorem dX8_note_34 : decode cX8_note 34 = .ok (.ldc 149, 2) := by decide +kernel
theorem dX8_note_36 : decode cX8_note 36 = .ok (.ireturn, 1) := by decide +kernel
theorem dX8_note_37 : decode cX8_note 37 = .ok (.iconst 0, 1) := by decide +kernel
theorem dX8_note_38 : decode cX8_note 38 = .ok (.istore 4, 2) := by decide +kernel
theorem dX8_note_40 : decode cX8_note 40 = .ok (.iconst 0, 1) := by decide +kernel
theorem dX8_note_41 : decode cX8_note 41 = .ok (.istore 5, 2) := by decide +kernel
theorem dX8_note_43 : decode cX8_note 43 = .ok (.iload 5, 2) := by decide +kernel
theorem dX8_note_45 : decode cX8_note 45 = .ok (.aload_n 0, 1) := by decide +kernel
theorem dX8_note_46 : decode cX8_note 46 = .ok (.getfield 17, 3) := by decide +kernel
theorem dX8_note_49 : decode cX8_note 49 = .ok (.if_icmp .ge 97, 3) := by decide +kernel
theorem dX8_note_52 : decode cX8_note 52 = .ok (.aload_n 0, 1) := by decide +kernel
theorem dX8_note_53 : decode cX8_note 53 = .ok (.getfield 90, 3) := by decide +kernel
theorem dX8_note_56 : decode cX8_note 56 = .ok (.iload 5, 2) := by decide +kernel
theorem dX8_note_58 : decode cX8_note 58 = .ok (.iaload, 1) := by decide +kernel
theorem dX8_note_59 : decode cX8_note 59 = .ok (.iload_n 1, 1) := by decide +kernel
theorem dX8_note_60 : decode cX8_note 60 = .ok (.if_icmp .ne 80, 3) := by decide +kernel
theorem dX8_note_63 : decode cX8_note 63 = .ok (.aload_n 0, 1) := by decide +kernel
theorem dX8_note_64 : decode cX8_note 64 = .ok (.getfield 87, 3) := by decide +kernel
theorem dX8_note_67 : decode cX8_note 67 = .ok (.iload 5, 2) := by decide +kernel
theorem dX8_note_69 : decode cX8_note 69 = .ok (.iaload, 1) := by decide +kernel
theorem dX8_note_70 : decode cX8_note 70 = .ok (.iconst 3, 1) := by decide +kernel
theorem dX8_note_71 : decode cX8_note 71 = .ok (.if_icmp .ge 69, 3) := by decide +kernel
theorem dX8_note_74 : decode cX8_note 74 = .ok (.iload 4, 2) := by decide +kernel
theorem dX8_note_76 : decode cX8_note 76 = .ok (.iload_n 2, 1) := by decide +kernel
theorem dX8_note_77 : decode cX8_note 77 = .ok (.if_icmp .ne 60, 3) := by decide +kernel
theorem dX8_note_80 : decode cX8_note 80 = .ok (.aload_n 0, 1) := by decide +kernel
theorem dX8_note_81 : decode cX8_note 81 = .ok (.getfield 87, 3) := by decide +kernel
theorem dX8_note_84 : decode cX8_note 84 = .ok (.iload 5, 2) := by decide +kernel
theorem dX8_note_86 : decode cX8_note 86 = .ok (.iaload, 1) := by decide +kernel
theorem dX8_note_87 : decode cX8_note 87 = .ok (.invokestatic 163, 3) := by decide +kernel
theorem dX8_note_90 : decode cX8_note 90 = .ok (.istore 6, 2) := by decide +kernel
theorem dX8_note_92 : decode cX8_note 92 = .ok (.iload_n 3, 1) := by decide +kernel
theorem dX8_note_93 : decode cX8_note 93 = .ok (.ifCond .ne 8, 3) := by decide +kernel
theorem dX8_note_96 : decode cX8_note 96 = .ok (.iload 5, 2) := by decide +kernel
theorem dX8_note_98 : decode cX8_note 98 = .ok (.goto 38, 3) := by decide +kernel
theorem dX8_note_101 : decode cX8_note 101 = .ok (.iload_n 3, 1) := by decide +kernel
theorem dX8_note_102 : decode cX8_note 102 = .ok (.iconst 1, 1) := by decide +kernel
theorem dX8_note_103 : decode cX8_note 103 = .ok (.if_icmp .ne 12, 3) := by decide +kernel
theorem dX8_note_106 : decode cX8_note 106 = .ok (.aload_n 0, 1) := by decide +kernel
theorem dX8_note_107 : decode cX8_note 107 = .ok (.iload 5, 2) := by decide +kernel
theorem dX8_note_109 : decode cX8_note 109 = .ok (.invokevirtual 150, 3) := by decide +kernel
theorem dX8_note_112 : decode cX8_note 112 = .ok (.goto 24, 3) := by decide +kernel
theorem dX8_note_115 : decode cX8_note 115 = .ok (.aload_n 0, 1) := by decide +kernel
theorem dX8_note_116 : decode cX8_note 116 = .ok (.iload 5, 2) := by decide +kernel
theorem dX8_note_118 : decode cX8_note 118 = .ok (.invokevirtual 186, 3) := by decide +kernel
theorem dX8_note_121 : decode cX8_note 121 = .ok (.ifCond .eq 13, 3) := by decide +kernel
theorem dX8_note_124 : decode cX8_note 124 = .ok (.iload 6, 2) := by decide +kernel
theorem dX8_note_126 : decode cX8_note 126 = .ok (.iload 6, 2) := by decide +kernel
theorem dX8_note_128 : decode cX8_note 128 = .ok (.iconst 2, 1) := by decide +kernel
theorem dX8_note_129 : decode cX8_note 129 = .ok (.idiv, 1) := by decide +kernel
theorem dX8_note_130 : decode cX8_note 130 = .ok (.iadd, 1) := by decide +kernel
theorem dX8_note_131 : decode cX8_note 131 = .ok (.goto 5, 3) := by decide +kernel
theorem dX8_note_134 : decode cX8_note 134 = .ok (.iload 6, 2) := by decide +kernel
theorem dX8_note_136 : decode cX8_note 136 = .ok (.ireturn, 1) := by decide +kernel
theorem dX8_note_137 : decode cX8_note 137 = .ok (.iinc 4 1, 3) := by decide +kernel
theorem dX8_note_140 : decode cX8_note 140 = .ok (.iinc 5 1, 3) := by decide +kernel
theorem dX8_note_143 : decode cX8_note 143 = .ok (.goto (-100), 3) := by decide +kernel
theorem dX8_note_146 : decode cX8_note 146 = .ok (.ldc 149, 2) := by decide +kernel
theorem dX8_note_148 : decode cX8_note 148 = .ok (.ireturn, 1) := by decide +kernel
theorem dX8_sway_0 : decode cX8_sway 0 = .ok (.iload_n 1, 1) := by decide +kernel
theorem dX8_sway_1 : decode cX8_sway 1 = .ok (.iconst 0, 1) := by decide +kernel
theorem dX8_sway_2 : decode cX8_sway 2 = .ok (.bipush 39, 2) := by decide +kernel
theorem dX8_sway_4 : decode cX8_sway 4 = .ok (.invokestatic 100, 3) := by decide +kernel
theorem dX8_sway_7 : decode cX8_sway 7 = .ok (.ifCond .eq 12, 3) := by decide +kernel
theorem dX8_sway_10 : decode cX8_sway 10 = .ok (.iload_n 2, 1) := by decide +kernel
theorem dX8_sway_11 : decode cX8_sway 11 = .ok (.iconst 0, 1) := by decide +kernel
theorem dX8_sway_12 : decode cX8_sway 12 = .ok (.iconst 4, 1) := by decide +kernel
theorem dX8_sway_13 : decode cX8_sway 13 = .ok (.invokestatic 100, 3) := by decide +kernel
theorem dX8_sway_16 : decode cX8_sway 16 = .ok (.ifCond .ne 6, 3) := by decide +kernel
theorem dX8_sway_19 : decode cX8_sway 19 = .ok (.bipush (-2), 2) := by decide +kernel
theorem dX8_sway_21 : decode cX8_sway 21 = .ok (.ireturn, 1) := by decide +kernel
theorem dX8_sway_22 : decode cX8_sway 22 = .ok (.aload_n 0, 1) := by decide +kernel
theorem dX8_sway_23 : decode cX8_sway 23 = .ok (.getfield 63, 3) := by decide +kernel
theorem dX8_sway_26 : decode cX8_sway 26 = .ok (.iload_n 1, 1) := by decide +kernel
theorem dX8_sway_27 : decode cX8_sway 27 = .ok (.iaload, 1) := by decide +kernel
theorem dX8_sway_28 : decode cX8_sway 28 = .ok (.istore_n 3, 1) := by decide +kernel
theorem dX8_sway_29 : decode cX8_sway 29 = .ok (.aload_n 0, 1) := by decide +kernel
theorem dX8_sway_30 : decode cX8_sway 30 = .ok (.getfield 63, 3) := by decide +kernel
theorem dX8_sway_33 : decode cX8_sway 33 = .ok (.iload_n 1, 1) := by decide +kernel
theorem dX8_sway_34 : decode cX8_sway 34 = .ok (.iload_n 2, 1) := by decide +kernel
theorem dX8_sway_35 : decode cX8_sway 35 = .ok (.iastore, 1) := by decide +kernel
theorem dX8_sway_36 : decode cX8_sway 36 = .ok (.iload_n 3, 1) := by decide +kernel
theorem dX8_sway_37 : decode cX8_sway 37 = .ok (.ireturn, 1) := by decide +kernel
theorem dX8_after_0 : decode cX8_after 0 = .ok (.aload_n 0, 1) := by decide +kernel
theorem dX8_after_1 : decode cX8_after 1 = .ok (.getfield 63, 3) := by decide +kernel
theorem dX8_after_4 : decode cX8_after 4 = .ok (.iload_n 1, 1) := by decide +kernel
theorem dX8_after_5 : decode cX8_after 5 = .ok (.iaload, 1) := by decide +kernel
theorem dX8_after_6 : decode cX8_after 6 = .ok (.iconst 2, 1) := by decide +kernel
theorem dX8_after_7 : decode cX8_after 7 = .ok (.if_icmp .lt 12, 3) := by decide +kernel
theorem dX8_after_10 : decode cX8_after 10 = .ok (.aload_n 0, 1) := by decide +kernel
theorem dX8_after_11 : decode cX8_after 11 = .ok (.getfield 93, 3) := by decide +kernel
theorem dX8_after_14 : decode cX8_after 14 = .ok (.iload_n 1, 1) := by decide +kernel
theorem dX8_after_15 : decode cX8_after 15 = .ok (.baload, 1) := by decide +kernel
theorem dX8_after_16 : decode cX8_after 16 = .ok (.ifCond .eq 7, 3) := by decide +kernel
theorem dX8_after_19 : decode cX8_after 19 = .ok (.iload_n 1, 1) := by decide +kernel
theorem dX8_after_20 : decode cX8_after 20 = .ok (.iconst 1, 1) := by decide +kernel
theorem dX8_after_21 : decode cX8_after 21 = .ok (.iadd, 1) := by decide +kernel
theorem dX8_after_22 : decode cX8_after 22 = .ok (.ireturn, 1) := by decide +kernel
theorem dX8_after_23 : decode cX8_after 23 = .ok (.aload_n 0, 1) := by decide +kernel
theorem dX8_after_24 : decode cX8_after 24 = .ok (.getfield 93, 3) := by decide +kernel
theorem dX8_after_27 : decode cX8_after 27 = .ok (.iload_n 1, 1) := by decide +kernel
theorem dX8_after_28 : decode cX8_after 28 = .ok (.iconst 1, 1) := by decide +kernel
theorem dX8_after_29 : decode cX8_after 29 = .ok (.bastore, 1) := by decide +kernel
theorem dX8_after_30 : decode cX8_after 30 = .ok (.iload_n 1, 1) := by decide +kernel
theorem dX8_after_31 : decode cX8_after 31 = .ok (.istore_n 2, 1) := by decide +kernel
theorem dX8_after_32 : decode cX8_after 32 = .ok (.iload_n 2, 1) := by decide +kernel
theorem dX8_after_33 : decode cX8_after 33 = .ok (.ifCond .le 29, 3) := by decide +kernel
theorem dX8_after_36 : decode cX8_after 36 = .ok (.aload_n 0, 1) := by decide +kernel
theorem dX8_after_37 : decode cX8_after 37 = .ok (.getfield 63, 3) := by decide +kernel
theorem dX8_after_40 : decode cX8_after 40 = .ok (.iload_n 1, 1) := by decide +kernel
theorem dX8_after_41 : decode cX8_after 41 = .ok (.iaload, 1) := by decide +kernel
theorem dX8_after_42 : decode cX8_after 42 = .ok (.iconst 4, 1) := by decide +kernel
theorem dX8_after_43 : decode cX8_after 43 = .ok (.if_icmp .eq 13, 3) := by decide +kernel
theorem dX8_after_46 : decode cX8_after 46 = .ok (.aload_n 0, 1) := by decide +kernel
theorem dX8_after_47 : decode cX8_after 47 = .ok (.getfield 63, 3) := by decide +kernel
theorem dX8_after_50 : decode cX8_after 50 = .ok (.iload_n 2, 1) := by decide +kernel
theorem dX8_after_51 : decode cX8_after 51 = .ok (.iaload, 1) := by decide +kernel
theorem dX8_after_52 : decode cX8_after 52 = .ok (.iconst 1, 1) := by decide +kernel
theorem dX8_after_53 : decode cX8_after 53 = .ok (.if_icmp .eq 9, 3) := by decide +kernel
theorem dX8_after_56 : decode cX8_after 56 = .ok (.iinc 2 (-1), 3) := by decide +kernel
theorem dX8_after_59 : decode cX8_after 59 = .ok (.goto (-27), 3) := by decide +kernel
theorem dX8_after_62 : decode cX8_after 62 = .ok (.iload_n 2, 1) := by decide +kernel
theorem dX8_after_63 : decode cX8_after 63 = .ok (.ireturn, 1) := by decide +kernel
theorem dX8_played_0 : decode cX8_played 0 = .ok (.iload_n 1, 1) := by decide +kernel
theorem dX8_played_1 : decode cX8_played 1 = .ok (.iconst 0, 1) := by decide +kernel
theorem dX8_played_2 : decode cX8_played 2 = .ok (.sipush 199, 3) := by decide +kernel
theorem dX8_played_5 : decode cX8_played 5 = .ok (.invokestatic 100, 3) := by decide +kernel
theorem dX8_played_8 : decode cX8_played 8 = .ok (.ifCond .ne 6, 3) := by decide +kernel
theorem dX8_played_11 : decode cX8_played 11 = .ok (.bipush (-2), 2) := by decide +kernel
theorem dX8_played_13 : decode cX8_played 13 = .ok (.ireturn, 1) := by decide +kernel
theorem dX8_played_14 : decode cX8_played 14 = .ok (.aload_n 0, 1) := by decide +kernel
theorem dX8_played_15 : decode cX8_played 15 = .ok (.invokevirtual 182, 3) := by decide +kernel
theorem dX8_played_18 : decode cX8_played 18 = .ok (.ifCond .ne 6, 3) := by decide +kernel
theorem dX8_played_21 : decode cX8_played 21 = .ok (.bipush (-3), 2) := by decide +kernel
theorem dX8_played_23 : decode cX8_played 23 = .ok (.ireturn, 1) := by decide +kernel
theorem dX8_played_24 : decode cX8_played 24 = .ok (.iconst 0, 1) := by decide +kernel
theorem dX8_played_25 : decode cX8_played 25 = .ok (.istore_n 2, 1) := by decide +kernel
theorem dX8_played_26 : decode cX8_played 26 = .ok (.iload_n 2, 1) := by decide +kernel
theorem dX8_played_27 : decode cX8_played 27 = .ok (.bipush 40, 2) := by decide +kernel
theorem dX8_played_29 : decode cX8_played 29 = .ok (.if_icmp .ge 16, 3) := by decide +kernel
theorem dX8_played_32 : decode cX8_played 32 = .ok (.aload_n 0, 1) := by decide +kernel
theorem dX8_played_33 : decode cX8_played 33 = .ok (.getfield 93, 3) := by decide +kernel
theorem dX8_played_36 : decode cX8_played 36 = .ok (.iload_n 2, 1) := by decide +kernel
theorem dX8_played_37 : decode cX8_played 37 = .ok (.iconst 0, 1) := by decide +kernel
theorem dX8_played_38 : decode cX8_played 38 = .ok (.bastore, 1) := by decide +kernel
theorem dX8_played_39 : decode cX8_played 39 = .ok (.iinc 2 1, 3) := by decide +kernel
theorem dX8_played_42 : decode cX8_played 42 = .ok (.goto (-16), 3) := by decide +kernel
theorem dX8_played_45 : decode cX8_played 45 = .ok (.iconst 0, 1) := by decide +kernel
theorem dX8_played_46 : decode cX8_played 46 = .ok (.istore_n 2, 1) := by decide +kernel
theorem dX8_played_47 : decode cX8_played 47 = .ok (.iconst 0, 1) := by decide +kernel
theorem dX8_played_48 : decode cX8_played 48 = .ok (.istore_n 3, 1) := by decide +kernel
theorem dX8_played_49 : decode cX8_played 49 = .ok (.iload_n 3, 1) := by decide +kernel
theorem dX8_played_50 : decode cX8_played 50 = .ok (.aload_n 0, 1) := by decide +kernel
theorem dX8_played_51 : decode cX8_played 51 = .ok (.getfield 179, 3) := by decide +kernel
theorem dX8_played_54 : decode cX8_played 54 = .ok (.if_icmp .ge 47, 3) := by decide +kernel
theorem dX8_played_57 : decode cX8_played 57 = .ok (.aload_n 0, 1) := by decide +kernel
theorem dX8_played_58 : decode cX8_played 58 = .ok (.getfield 63, 3) := by decide +kernel
theorem dX8_played_61 : decode cX8_played 61 = .ok (.iload_n 3, 1) := by decide +kernel
theorem dX8_played_62 : decode cX8_played 62 = .ok (.iaload, 1) := by decide +kernel
theorem dX8_played_63 : decode cX8_played 63 = .ok (.iconst 3, 1) := by decide +kernel
theorem dX8_played_64 : decode cX8_played 64 = .ok (.if_icmp .ne 18, 3) := by decide +kernel
theorem dX8_played_67 : decode cX8_played 67 = .ok (.aload_n 0, 1) := by decide +kernel
theorem dX8_played_68 : decode cX8_played 68 = .ok (.getfield 93, 3) := by decide +kernel
theorem dX8_played_71 : decode cX8_played 71 = .ok (.iload_n 3, 1) := by decide +kernel
theorem dX8_played_72 : decode cX8_played 72 = .ok (.baload, 1) := by decide +kernel
theorem dX8_played_73 : decode cX8_played 73 = .ok (.ifCond .eq 9, 3) := by decide +kernel
theorem dX8_played_76 : decode cX8_played 76 = .ok (.iinc 3 1, 3) := by decide +kernel
theorem dX8_played_79 : decode cX8_played 79 = .ok (.goto (-30), 3) := by decide +kernel
theorem dX8_played_82 : decode cX8_played 82 = .ok (.iload_n 2, 1) := by decide +kernel
theorem dX8_played_83 : decode cX8_played 83 = .ok (.iload_n 1, 1) := by decide +kernel
theorem dX8_played_84 : decode cX8_played 84 = .ok (.if_icmp .ne 5, 3) := by decide +kernel
theorem dX8_played_87 : decode cX8_played 87 = .ok (.iload_n 3, 1) := by decide +kernel
theorem dX8_played_88 : decode cX8_played 88 = .ok (.ireturn, 1) := by decide +kernel
theorem dX8_played_89 : decode cX8_played 89 = .ok (.iinc 2 1, 3) := by decide +kernel
theorem dX8_played_92 : decode cX8_played 92 = .ok (.aload_n 0, 1) := by decide +kernel
theorem dX8_played_93 : decode cX8_played 93 = .ok (.iload_n 3, 1) := by decide +kernel
theorem dX8_played_94 : decode cX8_played 94 = .ok (.invokevirtual 189, 3) := by decide +kernel
theorem dX8_played_97 : decode cX8_played 97 = .ok (.istore_n 3, 1) := by decide +kernel
theorem dX8_played_98 : decode cX8_played 98 = .ok (.goto (-49), 3) := by decide +kernel
theorem dX8_played_101 : decode cX8_played 101 = .ok (.iconst (-1), 1) := by decide +kernel
theorem dX8_played_102 : decode cX8_played 102 = .ok (.ireturn, 1) := by decide +kernel
theorem dX8_count_0 : decode cX8_count 0 = .ok (.iconst 0, 1) := by decide +kernel
theorem dX8_count_1 : decode cX8_count 1 = .ok (.istore_n 2, 1) := by decide +kernel
theorem dX8_count_2 : decode cX8_count 2 = .ok (.iload_n 1, 1) := by decide +kernel
theorem dX8_count_3 : decode cX8_count 3 = .ok (.tableswitch 150 0 4 #[33, 38, 52, 82, 119], 33) := by decide +kernel
theorem dX8_count_36 : decode cX8_count 36 = .ok (.aload_n 0, 1) := by decide +kernel
theorem dX8_count_37 : decode cX8_count 37 = .ok (.getfield 17, 3) := by decide +kernel
theorem dX8_count_40 : decode cX8_count 40 = .ok (.ireturn, 1) := by decide +kernel
theorem dX8_count_41 : decode cX8_count 41 = .ok (.aload_n 0, 1) := by decide +kernel
theorem dX8_count_42 : decode cX8_count 42 = .ok (.invokevirtual 122, 3) := by decide +kernel
theorem dX8_count_45 : decode cX8_count 45 = .ok (.iconst (-1), 1) := by decide +kernel
theorem dX8_count_46 : decode cX8_count 46 = .ok (.if_icmp .ne 7, 3) := by decide +kernel
theorem dX8_count_49 : decode cX8_count 49 = .ok (.iconst 0, 1) := by decide +kernel
theorem dX8_count_50 : decode cX8_count 50 = .ok (.goto 4, 3) := by decide +kernel
theorem dX8_count_53 : decode cX8_count 53 = .ok (.iconst 1, 1) := by decide +kernel
theorem dX8_count_54 : decode cX8_count 54 = .ok (.ireturn, 1) := by decide +kernel
theorem dX8_count_55 : decode cX8_count 55 = .ok (.aload_n 0, 1) := by decide +kernel
theorem dX8_count_56 : decode cX8_count 56 = .ok (.invokevirtual 122, 3) := by decide +kernel
theorem dX8_count_59 : decode cX8_count 59 = .ok (.istore_n 3, 1) := by decide +kernel
theorem dX8_count_60 : decode cX8_count 60 = .ok (.iload_n 3, 1) := by decide +kernel
theorem dX8_count_61 : decode cX8_count 61 = .ok (.iconst (-1), 1) := by decide +kernel
theorem dX8_count_62 : decode cX8_count 62 = .ok (.if_icmp .ne 7, 3) := by decide +kernel
theorem dX8_count_65 : decode cX8_count 65 = .ok (.iconst (-1), 1) := by decide +kernel
theorem dX8_count_66 : decode cX8_count 66 = .ok (.goto 18, 3) := by decide +kernel
theorem dX8_count_69 : decode cX8_count 69 = .ok (.aload_n 0, 1) := by decide +kernel
theorem dX8_count_70 : decode cX8_count 70 = .ok (.getfield 66, 3) := by decide +kernel
theorem dX8_count_73 : decode cX8_count 73 = .ok (.iload_n 3, 1) := by decide +kernel
theorem dX8_count_74 : decode cX8_count 74 = .ok (.iconst 1, 1) := by decide +kernel
theorem dX8_count_75 : decode cX8_count 75 = .ok (.iadd, 1) := by decide +kernel
theorem dX8_count_76 : decode cX8_count 76 = .ok (.iaload, 1) := by decide +kernel
theorem dX8_count_77 : decode cX8_count 77 = .ok (.aload_n 0, 1) := by decide +kernel
theorem dX8_count_78 : decode cX8_count 78 = .ok (.getfield 66, 3) := by decide +kernel
theorem dX8_count_81 : decode cX8_count 81 = .ok (.iload_n 3, 1) := by decide +kernel
theorem dX8_count_82 : decode cX8_count 82 = .ok (.iaload, 1) := by decide +kernel
theorem dX8_count_83 : decode cX8_count 83 = .ok (.isub, 1) := by decide +kernel
theorem dX8_count_84 : decode cX8_count 84 = .ok (.ireturn, 1) := by decide +kernel
theorem dX8_count_85 : decode cX8_count 85 = .ok (.iconst 0, 1) := by decide +kernel
theorem dX8_count_86 : decode cX8_count 86 = .ok (.istore 4, 2) := by decide +kernel
theorem dX8_count_88 : decode cX8_count 88 = .ok (.iload 4, 2) := by decide +kernel
theorem dX8_count_90 : decode cX8_count 90 = .ok (.bipush 40, 2) := by decide +kernel
theorem dX8_count_92 : decode cX8_count 92 = .ok (.if_icmp .ge 28, 3) := by decide +kernel
theorem dX8_count_95 : decode cX8_count 95 = .ok (.iload_n 2, 1) := by decide +kernel
theorem dX8_count_96 : decode cX8_count 96 = .ok (.aload_n 0, 1) := by decide +kernel
theorem dX8_count_97 : decode cX8_count 97 = .ok (.getfield 42, 3) := by decide +kernel
theorem dX8_count_100 : decode cX8_count 100 = .ok (.iload 4, 2) := by decide +kernel
theorem dX8_count_102 : decode cX8_count 102 = .ok (.iaload, 1) := by decide +kernel
theorem dX8_count_103 : decode cX8_count 103 = .ok (.iconst (-1), 1) := by decide +kernel
theorem dX8_count_104 : decode cX8_count 104 = .ok (.if_icmp .eq 7, 3) := by decide +kernel
theorem dX8_count_107 : decode cX8_count 107 = .ok (.iconst 1, 1) := by decide +kernel
theorem dX8_count_108 : decode cX8_count 108 = .ok (.goto 4, 3) := by decide +kernel
theorem dX8_count_111 : decode cX8_count 111 = .ok (.iconst 0, 1) := by decide +kernel
theorem dX8_count_112 : decode cX8_count 112 = .ok (.iadd, 1) := by decide +kernel
theorem dX8_count_113 : decode cX8_count 113 = .ok (.istore_n 2, 1) := by decide +kernel
theorem dX8_count_114 : decode cX8_count 114 = .ok (.iinc 4 1, 3) := by decide +kernel
theorem dX8_count_117 : decode cX8_count 117 = .ok (.goto (-29), 3) := by decide +kernel
theorem dX8_count_120 : decode cX8_count 120 = .ok (.iload_n 2, 1) := by decide +kernel
theorem dX8_count_121 : decode cX8_count 121 = .ok (.ireturn, 1) := by decide +kernel
theorem dX8_count_122 : decode cX8_count 122 = .ok (.iconst 0, 1) := by decide +kernel
theorem dX8_count_123 : decode cX8_count 123 = .ok (.istore 4, 2) := by decide +kernel
theorem dX8_count_125 : decode cX8_count 125 = .ok (.iload 4, 2) := by decide +kernel
theorem dX8_count_127 : decode cX8_count 127 = .ok (.bipush 32, 2) := by decide +kernel
theorem dX8_count_129 : decode cX8_count 129 = .ok (.if_icmp .ge 22, 3) := by decide +kernel
theorem dX8_count_132 : decode cX8_count 132 = .ok (.iload_n 2, 1) := by decide +kernel
theorem dX8_count_133 : decode cX8_count 133 = .ok (.aload_n 0, 1) := by decide +kernel
theorem dX8_count_134 : decode cX8_count 134 = .ok (.getfield 7, 3) := by decide +kernel
theorem dX8_count_137 : decode cX8_count 137 = .ok (.iload 4, 2) := by decide +kernel
theorem dX8_count_139 : decode cX8_count 139 = .ok (.laload, 1) := by decide +kernel
theorem dX8_count_140 : decode cX8_count 140 = .ok (.invokestatic 104, 3) := by decide +kernel
theorem dX8_count_143 : decode cX8_count 143 = .ok (.iadd, 1) := by decide +kernel
theorem dX8_count_144 : decode cX8_count 144 = .ok (.istore_n 2, 1) := by decide +kernel
theorem dX8_count_145 : decode cX8_count 145 = .ok (.iinc 4 1, 3) := by decide +kernel
theorem dX8_count_148 : decode cX8_count 148 = .ok (.goto (-23), 3) := by decide +kernel
theorem dX8_count_151 : decode cX8_count 151 = .ok (.iload_n 2, 1) := by decide +kernel
theorem dX8_count_152 : decode cX8_count 152 = .ok (.ireturn, 1) := by decide +kernel
theorem dX8_count_153 : decode cX8_count 153 = .ok (.bipush (-2), 2) := by decide +kernel
theorem dX8_count_155 : decode cX8_count 155 = .ok (.ireturn, 1) := by decide +kernel
theorem dJ13_bitCount_95d88_0 : decode cJ13_bitCount_95d88 0 = .ok (.lload_n 0, 1) := by decide +kernel
theorem dJ13_bitCount_95d88_1 : decode cJ13_bitCount_95d88 1 = .ok (.lload_n 0, 1) := by decide +kernel
theorem dJ13_bitCount_95d88_2 : decode cJ13_bitCount_95d88 2 = .ok (.iconst 1, 1) := by decide +kernel
theorem dJ13_bitCount_95d88_3 : decode cJ13_bitCount_95d88 3 = .ok (.lushr, 1) := by decide +kernel
theorem dJ13_bitCount_95d88_4 : decode cJ13_bitCount_95d88 4 = .ok (.ldc2_w 314, 3) := by decide +kernel
theorem dJ13_bitCount_95d88_7 : decode cJ13_bitCount_95d88 7 = .ok (.land, 1) := by decide +kernel
theorem dJ13_bitCount_95d88_8 : decode cJ13_bitCount_95d88 8 = .ok (.lsub, 1) := by decide +kernel
theorem dJ13_bitCount_95d88_9 : decode cJ13_bitCount_95d88 9 = .ok (.lstore_n 0, 1) := by decide +kernel
theorem dJ13_bitCount_95d88_10 : decode cJ13_bitCount_95d88 10 = .ok (.lload_n 0, 1) := by decide +kernel
theorem dJ13_bitCount_95d88_11 : decode cJ13_bitCount_95d88 11 = .ok (.ldc2_w 316, 3) := by decide +kernel
theorem dJ13_bitCount_95d88_14 : decode cJ13_bitCount_95d88 14 = .ok (.land, 1) := by decide +kernel
theorem dJ13_bitCount_95d88_15 : decode cJ13_bitCount_95d88 15 = .ok (.lload_n 0, 1) := by decide +kernel
theorem dJ13_bitCount_95d88_16 : decode cJ13_bitCount_95d88 16 = .ok (.iconst 2, 1) := by decide +kernel
theorem dJ13_bitCount_95d88_17 : decode cJ13_bitCount_95d88 17 = .ok (.lushr, 1) := by decide +kernel
theorem dJ13_bitCount_95d88_18 : decode cJ13_bitCount_95d88 18 = .ok (.ldc2_w 316, 3) := by decide +kernel
theorem dJ13_bitCount_95d88_21 : decode cJ13_bitCount_95d88 21 = .ok (.land, 1) := by decide +kernel
theorem dJ13_bitCount_95d88_22 : decode cJ13_bitCount_95d88 22 = .ok (.ladd, 1) := by decide +kernel
theorem dJ13_bitCount_95d88_23 : decode cJ13_bitCount_95d88 23 = .ok (.lstore_n 0, 1) := by decide +kernel
theorem dJ13_bitCount_95d88_24 : decode cJ13_bitCount_95d88 24 = .ok (.lload_n 0, 1) := by decide +kernel
theorem dJ13_bitCount_95d88_25 : decode cJ13_bitCount_95d88 25 = .ok (.lload_n 0, 1) := by decide +kernel
theorem dJ13_bitCount_95d88_26 : decode cJ13_bitCount_95d88 26 = .ok (.iconst 4, 1) := by decide +kernel
theorem dJ13_bitCount_95d88_27 : decode cJ13_bitCount_95d88 27 = .ok (.lushr, 1) := by decide +kernel
theorem dJ13_bitCount_95d88_28 : decode cJ13_bitCount_95d88 28 = .ok (.ladd, 1) := by decide +kernel
theorem dJ13_bitCount_95d88_29 : decode cJ13_bitCount_95d88 29 = .ok (.ldc2_w 318, 3) := by decide +kernel
theorem dJ13_bitCount_95d88_32 : decode cJ13_bitCount_95d88 32 = .ok (.land, 1) := by decide +kernel
theorem dJ13_bitCount_95d88_33 : decode cJ13_bitCount_95d88 33 = .ok (.lstore_n 0, 1) := by decide +kernel
theorem dJ13_bitCount_95d88_34 : decode cJ13_bitCount_95d88 34 = .ok (.lload_n 0, 1) := by decide +kernel
theorem dJ13_bitCount_95d88_35 : decode cJ13_bitCount_95d88 35 = .ok (.lload_n 0, 1) := by decide +kernel
theorem dJ13_bitCount_95d88_36 : decode cJ13_bitCount_95d88 36 = .ok (.bipush 8, 2) := by decide +kernel
theorem dJ13_bitCount_95d88_38 : decode cJ13_bitCount_95d88 38 = .ok (.lushr, 1) := by decide +kernel
theorem dJ13_bitCount_95d88_39 : decode cJ13_bitCount_95d88 39 = .ok (.ladd, 1) := by decide +kernel
theorem dJ13_bitCount_95d88_40 : decode cJ13_bitCount_95d88 40 = .ok (.lstore_n 0, 1) := by decide +kernel
theorem dJ13_bitCount_95d88_41 : decode cJ13_bitCount_95d88 41 = .ok (.lload_n 0, 1) := by decide +kernel
theorem dJ13_bitCount_95d88_42 : decode cJ13_bitCount_95d88 42 = .ok (.lload_n 0, 1) := by decide +kernel
theorem dJ13_bitCount_95d88_43 : decode cJ13_bitCount_95d88 43 = .ok (.bipush 16, 2) := by decide +kernel
theorem dJ13_bitCount_95d88_45 : decode cJ13_bitCount_95d88 45 = .ok (.lushr, 1) := by decide +kernel
theorem dJ13_bitCount_95d88_46 : decode cJ13_bitCount_95d88 46 = .ok (.ladd, 1) := by decide +kernel
theorem dJ13_bitCount_95d88_47 : decode cJ13_bitCount_95d88 47 = .ok (.lstore_n 0, 1) := by decide +kernel
theorem dJ13_bitCount_95d88_48 : decode cJ13_bitCount_95d88 48 = .ok (.lload_n 0, 1) := by decide +kernel
theorem dJ13_bitCount_95d88_49 : decode cJ13_bitCount_95d88 49 = .ok (.lload_n 0, 1) := by decide +kernel
theorem dJ13_bitCount_95d88_50 : decode cJ13_bitCount_95d88 50 = .ok (.bipush 32, 2) := by decide +kernel
theorem dJ13_bitCount_95d88_52 : decode cJ13_bitCount_95d88 52 = .ok (.lushr, 1) := by decide +kernel
theorem dJ13_bitCount_95d88_53 : decode cJ13_bitCount_95d88 53 = .ok (.ladd, 1) := by decide +kernel
theorem dJ13_bitCount_95d88_54 : decode cJ13_bitCount_95d88 54 = .ok (.lstore_n 0, 1) := by decide +kernel
theorem dJ13_bitCount_95d88_55 : decode cJ13_bitCount_95d88 55 = .ok (.lload_n 0, 1) := by decide +kernel
theorem dJ13_bitCount_95d88_56 : decode cJ13_bitCount_95d88 56 = .ok (.l2i, 1) := by decide +kernel
theorem dJ13_bitCount_95d88_57 : decode cJ13_bitCount_95d88 57 = .ok (.bipush 127, 2) := by decide +kernel
theorem dJ13_bitCount_95d88_59 : decode cJ13_bitCount_95d88 59 = .ok (.iand, 1) := by decide +kernel
theorem dJ13_bitCount_95d88_60 : decode cJ13_bitCount_95d88 60 = .ok (.ireturn, 1) := by decide +kernel
theorem dJ9_floorDiv_7cf53_0 : decode cJ9_floorDiv_7cf53 0 = .ok (.iload_n 0, 1) := by decide +kernel
theorem dJ9_floorDiv_7cf53_1 : decode cJ9_floorDiv_7cf53 1 = .ok (.iload_n 1, 1) := by decide +kernel
theorem dJ9_floorDiv_7cf53_2 : decode cJ9_floorDiv_7cf53 2 = .ok (.idiv, 1) := by decide +kernel
theorem dJ9_floorDiv_7cf53_3 : decode cJ9_floorDiv_7cf53 3 = .ok (.istore_n 2, 1) := by decide +kernel
theorem dJ9_floorDiv_7cf53_4 : decode cJ9_floorDiv_7cf53 4 = .ok (.iload_n 0, 1) := by decide +kernel
theorem dJ9_floorDiv_7cf53_5 : decode cJ9_floorDiv_7cf53 5 = .ok (.iload_n 1, 1) := by decide +kernel
theorem dJ9_floorDiv_7cf53_6 : decode cJ9_floorDiv_7cf53 6 = .ok (.ixor, 1) := by decide +kernel
theorem dJ9_floorDiv_7cf53_7 : decode cJ9_floorDiv_7cf53 7 = .ok (.ifCond .ge 14, 3) := by decide +kernel
theorem dJ9_floorDiv_7cf53_10 : decode cJ9_floorDiv_7cf53 10 = .ok (.iload_n 2, 1) := by decide +kernel
theorem dJ9_floorDiv_7cf53_11 : decode cJ9_floorDiv_7cf53 11 = .ok (.iload_n 1, 1) := by decide +kernel
theorem dJ9_floorDiv_7cf53_12 : decode cJ9_floorDiv_7cf53 12 = .ok (.imul, 1) := by decide +kernel
theorem dJ9_floorDiv_7cf53_13 : decode cJ9_floorDiv_7cf53 13 = .ok (.iload_n 0, 1) := by decide +kernel
theorem dJ9_floorDiv_7cf53_14 : decode cJ9_floorDiv_7cf53 14 = .ok (.if_icmp .eq 7, 3) := by decide +kernel
theorem dJ9_floorDiv_7cf53_17 : decode cJ9_floorDiv_7cf53 17 = .ok (.iload_n 2, 1) := by decide +kernel
theorem dJ9_floorDiv_7cf53_18 : decode cJ9_floorDiv_7cf53 18 = .ok (.iconst 1, 1) := by decide +kernel
theorem dJ9_floorDiv_7cf53_19 : decode cJ9_floorDiv_7cf53 19 = .ok (.isub, 1) := by decide +kernel
theorem dJ9_floorDiv_7cf53_20 : decode cJ9_floorDiv_7cf53 20 = .ok (.ireturn, 1) := by decide +kernel
theorem dJ9_floorDiv_7cf53_21 : decode cJ9_floorDiv_7cf53 21 = .ok (.iload_n 2, 1) := by decide +kernel
theorem dJ9_floorDiv_7cf53_22 : decode cJ9_floorDiv_7cf53 22 = .ok (.ireturn, 1) := by decide +kernel
theorem dJ9_max_7cf53_0 : decode cJ9_max_7cf53 0 = .ok (.iload_n 0, 1) := by decide +kernel
theorem dJ9_max_7cf53_1 : decode cJ9_max_7cf53 1 = .ok (.iload_n 1, 1) := by decide +kernel
theorem dJ9_max_7cf53_2 : decode cJ9_max_7cf53 2 = .ok (.if_icmp .lt 7, 3) := by decide +kernel
theorem dJ9_max_7cf53_5 : decode cJ9_max_7cf53 5 = .ok (.iload_n 0, 1) := by decide +kernel
theorem dJ9_max_7cf53_6 : decode cJ9_max_7cf53 6 = .ok (.goto 4, 3) := by decide +kernel
theorem dJ9_max_7cf53_9 : decode cJ9_max_7cf53 9 = .ok (.iload_n 1, 1) := by decide +kernel
theorem dJ9_max_7cf53_10 : decode cJ9_max_7cf53 10 = .ok (.ireturn, 1) := by decide +kernel
theorem dJ9_min_7cf53_0 : decode cJ9_min_7cf53 0 = .ok (.iload_n 0, 1) := by decide +kernel
theorem dJ9_min_7cf53_1 : decode cJ9_min_7cf53 1 = .ok (.iload_n 1, 1) := by decide +kernel
theorem dJ9_min_7cf53_2 : decode cJ9_min_7cf53 2 = .ok (.if_icmp .gt 7, 3) := by decide +kernel
theorem dJ9_min_7cf53_5 : decode cJ9_min_7cf53 5 = .ok (.iload_n 0, 1) := by decide +kernel
theorem dJ9_min_7cf53_6 : decode cJ9_min_7cf53 6 = .ok (.goto 4, 3) := by decide +kernel
theorem dJ9_min_7cf53_9 : decode cJ9_min_7cf53 9 = .ok (.iload_n 1, 1) := by decide +kernel
theorem dJ9_min_7cf53_10 : decode cJ9_min_7cf53 10 = .ok (.ireturn, 1) := by decide +kernel
