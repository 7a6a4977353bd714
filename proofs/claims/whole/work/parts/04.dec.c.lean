theorem dX5_init_0 : decode cX5_init 0 = .ok (.aload_n 0, 1) := by decide +kernel
theorem dX5_init_1 : decode cX5_init 1 = .ok (.invokespecial 1, 3) := by decide +kernel
theorem dX5_init_4 : decode cX5_init 4 = .ok (.aload_n 0, 1) := by decide +kernel
theorem dX5_init_5 : decode cX5_init 5 = .ok (.bipush 75, 2) := by decide +kernel
theorem dX5_init_7 : decode cX5_init 7 = .ok (.newarray .long, 2) := by decide +kernel
theorem dX5_init_9 : decode cX5_init 9 = .ok (.putfield 7, 3) := by decide +kernel
theorem dX5_init_12 : decode cX5_init 12 = .ok (.aload_n 0, 1) := by decide +kernel
theorem dX5_init_13 : decode cX5_init 13 = .ok (.sipush 300, 3) := by decide +kernel
theorem dX5_init_16 : decode cX5_init 16 = .ok (.newarray .long, 2) := by decide +kernel
theorem dX5_init_18 : decode cX5_init 18 = .ok (.putfield 13, 3) := by decide +kernel
theorem dX5_init_21 : decode cX5_init 21 = .ok (.aload_n 0, 1) := by decide +kernel
theorem dX5_init_22 : decode cX5_init 22 = .ok (.bipush 75, 2) := by decide +kernel
theorem dX5_init_24 : decode cX5_init 24 = .ok (.newarray .long, 2) := by decide +kernel
theorem dX5_init_26 : decode cX5_init 26 = .ok (.putfield 16, 3) := by decide +kernel
theorem dX5_init_29 : decode cX5_init 29 = .ok (.aload_n 0, 1) := by decide +kernel
theorem dX5_init_30 : decode cX5_init 30 = .ok (.bipush 60, 2) := by decide +kernel
theorem dX5_init_32 : decode cX5_init 32 = .ok (.newarray .int, 2) := by decide +kernel
theorem dX5_init_34 : decode cX5_init 34 = .ok (.putfield 19, 3) := by decide +kernel
theorem dX5_init_37 : decode cX5_init 37 = .ok (.aload_n 0, 1) := by decide +kernel
theorem dX5_init_38 : decode cX5_init 38 = .ok (.bipush 10, 2) := by decide +kernel
theorem dX5_init_40 : decode cX5_init 40 = .ok (.newarray .int, 2) := by decide +kernel
theorem dX5_init_42 : decode cX5_init 42 = .ok (.putfield 23, 3) := by decide +kernel
theorem dX5_init_45 : decode cX5_init 45 = .ok (.aload_n 0, 1) := by decide +kernel
theorem dX5_init_46 : decode cX5_init 46 = .ok (.iconst 4, 1) := by decide +kernel
theorem dX5_init_47 : decode cX5_init 47 = .ok (.newarray .int, 2) := by decide +kernel
theorem dX5_init_49 : decode cX5_init 49 = .ok (.putfield 26, 3) := by decide +kernel
theorem dX5_init_52 : decode cX5_init 52 = .ok (.aload_n 0, 1) := by decide +kernel
theorem dX5_init_53 : decode cX5_init 53 = .ok (.getfield 7, 3) := by decide +kernel
theorem dX5_init_56 : decode cX5_init 56 = .ok (.iconst 0, 1) := by decide +kernel
theorem dX5_init_57 : decode cX5_init 57 = .ok (.ldc2_w 29, 3) := by decide +kernel
theorem dX5_init_60 : decode cX5_init 60 = .ok (.lastore, 1) := by decide +kernel
theorem dX5_init_61 : decode cX5_init 61 = .ok (.aload_n 0, 1) := by decide +kernel
theorem dX5_init_62 : decode cX5_init 62 = .ok (.getfield 7, 3) := by decide +kernel
theorem dX5_init_65 : decode cX5_init 65 = .ok (.iconst 1, 1) := by decide +kernel
theorem dX5_init_66 : decode cX5_init 66 = .ok (.ldc2_w 31, 3) := by decide +kernel
theorem dX5_init_69 : decode cX5_init 69 = .ok (.lastore, 1) := by decide +kernel
theorem dX5_init_70 : decode cX5_init 70 = .ok (.aload_n 0, 1) := by decide +kernel
theorem dX5_init_71 : decode cX5_init 71 = .ok (.getfield 7, 3) := by decide +kernel
theorem dX5_init_74 : decode cX5_init 74 = .ok (.iconst 2, 1) := by decide +kernel
theorem dX5_init_75 : decode cX5_init 75 = .ok (.lconst 1, 1) := by decide +kernel
theorem dX5_init_76 : decode cX5_init 76 = .ok (.lastore, 1) := by decide +kernel
theorem dX5_init_77 : decode cX5_init 77 = .ok (.aload_n 0, 1) := by decide +kernel
theorem dX5_init_78 : decode cX5_init 78 = .ok (.getfield 7, 3) := by decide +kernel
theorem dX5_init_81 : decode cX5_init 81 = .ok (.iconst 3, 1) := by decide +kernel
theorem dX5_init_82 : decode cX5_init 82 = .ok (.ldc2_w 33, 3) := by decide +kernel
theorem dX5_init_85 : decode cX5_init 85 = .ok (.lastore, 1) := by decide +kernel
theorem dX5_init_86 : decode cX5_init 86 = .ok (.iconst 0, 1) := by decide +kernel
theorem dX5_init_87 : decode cX5_init 87 = .ok (.istore_n 1, 1) := by decide +kernel
theorem dX5_init_88 : decode cX5_init 88 = .ok (.iload_n 1, 1) := by decide +kernel
theorem dX5_init_89 : decode cX5_init 89 = .ok (.iconst 4, 1) := by decide +kernel
theorem dX5_init_90 : decode cX5_init 90 = .ok (.if_icmp .ge 21, 3) := by decide +kernel
theorem dX5_init_93 : decode cX5_init 93 = .ok (.aload_n 0, 1) := by decide +kernel
theorem dX5_init_94 : decode cX5_init 94 = .ok (.getfield 7, 3) := by decide +kernel
theorem dX5_init_97 : decode cX5_init 97 = .ok (.bipush 9, 2) := by decide +kernel
theorem dX5_init_99 : decode cX5_init 99 = .ok (.iload_n 1, 1) := by decide +kernel
theorem dX5_init_100 : decode cX5_init 100 = .ok (.iadd, 1) := by decide +kernel
theorem dX5_init_101 : decode cX5_init 101 = .ok (.ldc2_w 35, 3) := by decide +kernel
theorem dX5_init_104 : decode cX5_init 104 = .ok (.lastore, 1) := by decide +kernel
theorem dX5_init_105 : decode cX5_init 105 = .ok (.iinc 1 1, 3) := by decide +kernel
theorem dX5_init_108 : decode cX5_init 108 = .ok (.goto (-20), 3) := by decide +kernel
theorem dX5_init_111 : decode cX5_init 111 = .ok (.return_, 1) := by decide +kernel
theorem dX5_thrown_0 : decode cX5_thrown 0 = .ok (.aload_n 0, 1) := by decide +kernel
theorem dX5_thrown_1 : decode cX5_thrown 1 = .ok (.getfield 37, 3) := by decide +kernel
theorem dX5_thrown_4 : decode cX5_thrown 4 = .ok (.ireturn, 1) := by decide +kernel
theorem dX5_in_0 : decode cX5_in 0 = .ok (.lload_n 0, 1) := by decide +kernel
theorem dX5_in_1 : decode cX5_in 1 = .ok (.lload_n 2, 1) := by decide +kernel
theorem dX5_in_2 : decode cX5_in 2 = .ok (.lcmp, 1) := by decide +kernel
theorem dX5_in_3 : decode cX5_in 3 = .ok (.ifCond .lt 14, 3) := by decide +kernel
theorem dX5_in_6 : decode cX5_in 6 = .ok (.lload_n 0, 1) := by decide +kernel
theorem dX5_in_7 : decode cX5_in 7 = .ok (.lload 4, 2) := by decide +kernel
theorem dX5_in_9 : decode cX5_in 9 = .ok (.lcmp, 1) := by decide +kernel
theorem dX5_in_10 : decode cX5_in 10 = .ok (.ifCond .gt 7, 3) := by decide +kernel
theorem dX5_in_13 : decode cX5_in 13 = .ok (.iconst 1, 1) := by decide +kernel
theorem dX5_in_14 : decode cX5_in 14 = .ok (.goto 4, 3) := by decide +kernel
theorem dX5_in_17 : decode cX5_in 17 = .ok (.iconst 0, 1) := by decide +kernel
theorem dX5_in_18 : decode cX5_in 18 = .ok (.ireturn, 1) := by decide +kernel
theorem dX5_fails_0 : decode cX5_fails 0 = .ok (.aload_n 0, 1) := by decide +kernel
theorem dX5_fails_1 : decode cX5_fails 1 = .ok (.iload_n 1, 1) := by decide +kernel
theorem dX5_fails_2 : decode cX5_fails 2 = .ok (.putfield 37, 3) := by decide +kernel
theorem dX5_fails_5 : decode cX5_fails 5 = .ok (.iconst 0, 1) := by decide +kernel
theorem dX5_fails_6 : decode cX5_fails 6 = .ok (.ireturn, 1) := by decide +kernel
theorem dX5_tells_0 : decode cX5_tells 0 = .ok (.aload_n 0, 1) := by decide +kernel
theorem dX5_tells_1 : decode cX5_tells 1 = .ok (.iconst 0, 1) := by decide +kernel
theorem dX5_tells_2 : decode cX5_tells 2 = .ok (.putfield 37, 3) := by decide +kernel
theorem dX5_tells_5 : decode cX5_tells 5 = .ok (.iload_n 1, 1) := by decide +kernel
theorem dX5_tells_6 : decode cX5_tells 6 = .ok (.ireturn, 1) := by decide +kernel
theorem dX5_isBlock_0 : decode cX5_isBlock 0 = .ok (.iload_n 0, 1) := by decide +kernel
theorem dX5_isBlock_1 : decode cX5_isBlock 1 = .ok (.i2l, 1) := by decide +kernel
theorem dX5_isBlock_2 : decode cX5_isBlock 2 = .ok (.lconst 0, 1) := by decide +kernel
theorem dX5_isBlock_3 : decode cX5_isBlock 3 = .ok (.ldc2_w 41, 3) := by decide +kernel
theorem dX5_isBlock_6 : decode cX5_isBlock 6 = .ok (.invokestatic 43, 3) := by decide +kernel
theorem dX5_isBlock_9 : decode cX5_isBlock 9 = .ok (.ireturn, 1) := by decide +kernel
theorem dX5_isForce_0 : decode cX5_isForce 0 = .ok (.iload_n 0, 1) := by decide +kernel
theorem dX5_isForce_1 : decode cX5_isForce 1 = .ok (.i2l, 1) := by decide +kernel
theorem dX5_isForce_2 : decode cX5_isForce 2 = .ok (.lconst 0, 1) := by decide +kernel
theorem dX5_isForce_3 : decode cX5_isForce 3 = .ok (.ldc2_w 47, 3) := by decide +kernel
theorem dX5_isForce_6 : decode cX5_isForce 6 = .ok (.invokestatic 43, 3) := by decide +kernel
theorem dX5_isForce_9 : decode cX5_isForce 9 = .ok (.ireturn, 1) := by decide +kernel
theorem dX5_saves_0 : decode cX5_saves 0 = .ok (.aload_n 0, 1) := by decide +kernel
theorem dX5_saves_1 : decode cX5_saves 1 = .ok (.getfield 49, 3) := by decide +kernel
theorem dX5_saves_4 : decode cX5_saves 4 = .ok (.iconst 4, 1) := by decide +kernel
theorem dX5_saves_5 : decode cX5_saves 5 = .ok (.if_icmp .ne 43, 3) := by decide +kernel
theorem dX5_saves_8 : decode cX5_saves 8 = .ok (.iconst 0, 1) := by decide +kernel
theorem dX5_saves_9 : decode cX5_saves 9 = .ok (.istore_n 1, 1) := by decide +kernel
theorem dX5_saves_10 : decode cX5_saves 10 = .ok (.iload_n 1, 1) := by decide +kernel
theorem dX5_saves_11 : decode cX5_saves 11 = .ok (.sipush 225, 3) := by decide +kernel
theorem dX5_saves_14 : decode cX5_saves 14 = .ok (.if_icmp .ge 24, 3) := by decide +kernel
theorem dX5_saves_17 : decode cX5_saves 17 = .ok (.aload_n 0, 1) := by decide +kernel
theorem dX5_saves_18 : decode cX5_saves 18 = .ok (.getfield 13, 3) := by decide +kernel
theorem dX5_saves_21 : decode cX5_saves 21 = .ok (.iload_n 1, 1) := by decide +kernel
theorem dX5_saves_22 : decode cX5_saves 22 = .ok (.aload_n 0, 1) := by decide +kernel
theorem dX5_saves_23 : decode cX5_saves 23 = .ok (.getfield 13, 3) := by decide +kernel
theorem dX5_saves_26 : decode cX5_saves 26 = .ok (.iload_n 1, 1) := by decide +kernel
theorem dX5_saves_27 : decode cX5_saves 27 = .ok (.bipush 75, 2) := by decide +kernel
theorem dX5_saves_29 : decode cX5_saves 29 = .ok (.iadd, 1) := by decide +kernel
theorem dX5_saves_30 : decode cX5_saves 30 = .ok (.laload, 1) := by decide +kernel
theorem dX5_saves_31 : decode cX5_saves 31 = .ok (.lastore, 1) := by decide +kernel
theorem dX5_saves_32 : decode cX5_saves 32 = .ok (.iinc 1 1, 3) := by decide +kernel
theorem dX5_saves_35 : decode cX5_saves 35 = .ok (.goto (-25), 3) := by decide +kernel
theorem dX5_saves_38 : decode cX5_saves 38 = .ok (.aload_n 0, 1) := by decide +kernel
theorem dX5_saves_39 : decode cX5_saves 39 = .ok (.dup, 1) := by decide +kernel
theorem dX5_saves_40 : decode cX5_saves 40 = .ok (.getfield 49, 3) := by decide +kernel
theorem dX5_saves_43 : decode cX5_saves 43 = .ok (.iconst 1, 1) := by decide +kernel
theorem dX5_saves_44 : decode cX5_saves 44 = .ok (.isub, 1) := by decide +kernel
theorem dX5_saves_45 : decode cX5_saves 45 = .ok (.putfield 49, 3) := by decide +kernel
theorem dX5_saves_48 : decode cX5_saves 48 = .ok (.iconst 0, 1) := by decide +kernel
theorem dX5_saves_49 : decode cX5_saves 49 = .ok (.istore_n 1, 1) := by decide +kernel
theorem dX5_saves_50 : decode cX5_saves 50 = .ok (.iload_n 1, 1) := by decide +kernel
theorem dX5_saves_51 : decode cX5_saves 51 = .ok (.bipush 75, 2) := by decide +kernel
theorem dX5_saves_53 : decode cX5_saves 53 = .ok (.if_icmp .ge 29, 3) := by decide +kernel
theorem dX5_saves_56 : decode cX5_saves 56 = .ok (.aload_n 0, 1) := by decide +kernel
theorem dX5_saves_57 : decode cX5_saves 57 = .ok (.getfield 13, 3) := by decide +kernel
theorem dX5_saves_60 : decode cX5_saves 60 = .ok (.bipush 75, 2) := by decide +kernel
theorem dX5_saves_62 : decode cX5_saves 62 = .ok (.aload_n 0, 1) := by decide +kernel
theorem dX5_saves_63 : decode cX5_saves 63 = .ok (.getfield 49, 3) := by decide +kernel
theorem dX5_saves_66 : decode cX5_saves 66 = .ok (.imul, 1) := by decide +kernel
theorem dX5_saves_67 : decode cX5_saves 67 = .ok (.iload_n 1, 1) := by decide +kernel
theorem dX5_saves_68 : decode cX5_saves 68 = .ok (.iadd, 1) := by decide +kernel
theorem dX5_saves_69 : decode cX5_saves 69 = .ok (.aload_n 0, 1) := by decide +kernel
theorem dX5_saves_70 : decode cX5_saves 70 = .ok (.getfield 7, 3) := by decide +kernel
theorem dX5_saves_73 : decode cX5_saves 73 = .ok (.iload_n 1, 1) := by decide +kernel
theorem dX5_saves_74 : decode cX5_saves 74 = .ok (.laload, 1) := by decide +kernel
theorem dX5_saves_75 : decode cX5_saves 75 = .ok (.lastore, 1) := by decide +kernel
theorem dX5_saves_76 : decode cX5_saves 76 = .ok (.iinc 1 1, 3) := by decide +kernel
theorem dX5_saves_79 : decode cX5_saves 79 = .ok (.goto (-29), 3) := by decide +kernel
theorem dX5_saves_82 : decode cX5_saves 82 = .ok (.aload_n 0, 1) := by decide +kernel
theorem dX5_saves_83 : decode cX5_saves 83 = .ok (.dup, 1) := by decide +kernel
theorem dX5_saves_84 : decode cX5_saves 84 = .ok (.getfield 49, 3) := by decide +kernel
theorem dX5_saves_87 : decode cX5_saves 87 = .ok (.iconst 1, 1) := by decide +kernel
theorem dX5_saves_88 : decode cX5_saves 88 = .ok (.iadd, 1) := by decide +kernel
theorem dX5_saves_89 : decode cX5_saves 89 = .ok (.putfield 49, 3) := by decide +kernel
theorem dX5_saves_92 : decode cX5_saves 92 = .ok (.return_, 1) := by decide +kernel
theorem dX5_laysAside_0 : decode cX5_laysAside 0 = .ok (.iconst 0, 1) := by decide +kernel
theorem dX5_laysAside_1 : decode cX5_laysAside 1 = .ok (.istore_n 1, 1) := by decide +kernel
theorem dX5_laysAside_2 : decode cX5_laysAside 2 = .ok (.iload_n 1, 1) := by decide +kernel
theorem dX5_laysAside_3 : decode cX5_laysAside 3 = .ok (.bipush 75, 2) := by decide +kernel
theorem dX5_laysAside_5 : decode cX5_laysAside 5 = .ok (.if_icmp .ge 21, 3) := by decide +kernel
theorem dX5_laysAside_8 : decode cX5_laysAside 8 = .ok (.aload_n 0, 1) := by decide +kernel
theorem dX5_laysAside_9 : decode cX5_laysAside 9 = .ok (.getfield 16, 3) := by decide +kernel
theorem dX5_laysAside_12 : decode cX5_laysAside 12 = .ok (.iload_n 1, 1) := by decide +kernel
theorem dX5_laysAside_13 : decode cX5_laysAside 13 = .ok (.aload_n 0, 1) := by decide +kernel
theorem dX5_laysAside_14 : decode cX5_laysAside 14 = .ok (.getfield 7, 3) := by decide +kernel
theorem dX5_laysAside_17 : decode cX5_laysAside 17 = .ok (.iload_n 1, 1) := by decide +kernel
theorem dX5_laysAside_18 : decode cX5_laysAside 18 = .ok (.laload, 1) := by decide +kernel
theorem dX5_laysAside_19 : decode cX5_laysAside 19 = .ok (.lastore, 1) := by decide +kernel
theorem dX5_laysAside_20 : decode cX5_laysAside 20 = .ok (.iinc 1 1, 3) := by decide +kernel
theorem dX5_laysAside_23 : decode cX5_laysAside 23 = .ok (.goto (-21), 3) := by decide +kernel
theorem dX5_laysAside_26 : decode cX5_laysAside 26 = .ok (.return_, 1) := by decide +kernel
theorem dX5_bringsBack_0 : decode cX5_bringsBack 0 = .ok (.iconst 0, 1) := by decide +kernel
theorem dX5_bringsBack_1 : decode cX5_bringsBack 1 = .ok (.istore_n 1, 1) := by decide +kernel
theorem dX5_bringsBack_2 : decode cX5_bringsBack 2 = .ok (.iload_n 1, 1) := by decide +kernel
theorem dX5_bringsBack_3 : decode cX5_bringsBack 3 = .ok (.bipush 75, 2) := by decide +kernel
theorem dX5_bringsBack_5 : decode cX5_bringsBack 5 = .ok (.if_icmp .ge 21, 3) := by decide +kernel
theorem dX5_bringsBack_8 : decode cX5_bringsBack 8 = .ok (.aload_n 0, 1) := by decide +kernel
theorem dX5_bringsBack_9 : decode cX5_bringsBack 9 = .ok (.getfield 7, 3) := by decide +kernel
theorem dX5_bringsBack_12 : decode cX5_bringsBack 12 = .ok (.iload_n 1, 1) := by decide +kernel
theorem dX5_bringsBack_13 : decode cX5_bringsBack 13 = .ok (.aload_n 0, 1) := by decide +kernel
theorem dX5_bringsBack_14 : decode cX5_bringsBack 14 = .ok (.getfield 16, 3) := by decide +kernel
theorem dX5_bringsBack_17 : decode cX5_bringsBack 17 = .ok (.iload_n 1, 1) := by decide +kernel
theorem dX5_bringsBack_18 : decode cX5_bringsBack 18 = .ok (.laload, 1) := by decide +kernel
theorem dX5_bringsBack_19 : decode cX5_bringsBack 19 = .ok (.lastore, 1) := by decide +kernel
theorem dX5_bringsBack_20 : decode cX5_bringsBack 20 = .ok (.iinc 1 1, 3) := by decide +kernel
theorem dX5_bringsBack_23 : decode cX5_bringsBack 23 = .ok (.goto (-21), 3) := by decide +kernel
theorem dX5_bringsBack_26 : decode cX5_bringsBack 26 = .ok (.return_, 1) := by decide +kernel
theorem dX5_pulleysOn_0 : decode cX5_pulleysOn 0 = .ok (.iconst 0, 1) := by decide +kernel
theorem dX5_pulleysOn_1 : decode cX5_pulleysOn 1 = .ok (.istore_n 2, 1) := by decide +kernel
theorem dX5_pulleysOn_2 : decode cX5_pulleysOn 2 = .ok (.iconst 0, 1) := by decide +kernel
theorem dX5_pulleysOn_3 : decode cX5_pulleysOn 3 = .ok (.istore_n 3, 1) := by decide +kernel
theorem dX5_pulleysOn_4 : decode cX5_pulleysOn 4 = .ok (.iload_n 3, 1) := by decide +kernel
theorem dX5_pulleysOn_5 : decode cX5_pulleysOn 5 = .ok (.i2l, 1) := by decide +kernel
theorem dX5_pulleysOn_6 : decode cX5_pulleysOn 6 = .ok (.aload_n 0, 1) := by decide +kernel
theorem dX5_pulleysOn_7 : decode cX5_pulleysOn 7 = .ok (.getfield 7, 3) := by decide +kernel
theorem dX5_pulleysOn_10 : decode cX5_pulleysOn 10 = .ok (.iconst 2, 1) := by decide +kernel
theorem dX5_pulleysOn_11 : decode cX5_pulleysOn 11 = .ok (.laload, 1) := by decide +kernel
theorem dX5_pulleysOn_12 : decode cX5_pulleysOn 12 = .ok (.lcmp, 1) := by decide +kernel
theorem dX5_pulleysOn_13 : decode cX5_pulleysOn 13 = .ok (.ifCond .ge 32, 3) := by decide +kernel
theorem dX5_pulleysOn_16 : decode cX5_pulleysOn 16 = .ok (.iload_n 2, 1) := by decide +kernel
theorem dX5_pulleysOn_17 : decode cX5_pulleysOn 17 = .ok (.aload_n 0, 1) := by decide +kernel
theorem dX5_pulleysOn_18 : decode cX5_pulleysOn 18 = .ok (.getfield 7, 3) := by decide +kernel
theorem dX5_pulleysOn_21 : decode cX5_pulleysOn 21 = .ok (.bipush 17, 2) := by decide +kernel
theorem dX5_pulleysOn_23 : decode cX5_pulleysOn 23 = .ok (.iload_n 3, 1) := by decide +kernel
theorem dX5_pulleysOn_24 : decode cX5_pulleysOn 24 = .ok (.iadd, 1) := by decide +kernel
theorem dX5_pulleysOn_25 : decode cX5_pulleysOn 25 = .ok (.laload, 1) := by decide +kernel
theorem dX5_pulleysOn_26 : decode cX5_pulleysOn 26 = .ok (.iload_n 1, 1) := by decide +kernel
theorem dX5_pulleysOn_27 : decode cX5_pulleysOn 27 = .ok (.i2l, 1) := by decide +kernel
theorem dX5_pulleysOn_28 : decode cX5_pulleysOn 28 = .ok (.lcmp, 1) := by decide +kernel
theorem dX5_pulleysOn_29 : decode cX5_pulleysOn 29 = .ok (.ifCond .ne 7, 3) := by decide +kernel
theorem dX5_pulleysOn_32 : decode cX5_pulleysOn 32 = .ok (.iconst 1, 1) := by decide +kernel
theorem dX5_pulleysOn_33 : decode cX5_pulleysOn 33 = .ok (.goto 4, 3) := by decide +kernel
theorem dX5_pulleysOn_36 : decode cX5_pulleysOn 36 = .ok (.iconst 0, 1) := by decide +kernel
theorem dX5_pulleysOn_37 : decode cX5_pulleysOn 37 = .ok (.iadd, 1) := by decide +kernel
theorem dX5_pulleysOn_38 : decode cX5_pulleysOn 38 = .ok (.istore_n 2, 1) := by decide +kernel
theorem dX5_pulleysOn_39 : decode cX5_pulleysOn 39 = .ok (.iinc 3 1, 3) := by decide +kernel
theorem dX5_pulleysOn_42 : decode cX5_pulleysOn 42 = .ok (.goto (-38), 3) := by decide +kernel
theorem dX5_pulleysOn_45 : decode cX5_pulleysOn 45 = .ok (.iload_n 2, 1) := by decide +kernel
theorem dX5_pulleysOn_46 : decode cX5_pulleysOn 46 = .ok (.ireturn, 1) := by decide +kernel
theorem dX5_strands_0 : decode cX5_strands 0 = .ok (.iconst 2, 1) := by decide +kernel
theorem dX5_strands_1 : decode cX5_strands 1 = .ok (.aload_n 0, 1) := by decide +kernel
theorem dX5_strands_2 : decode cX5_strands 2 = .ok (.iload_n 1, 1) := by decide +kernel
theorem dX5_strands_3 : decode cX5_strands 3 = .ok (.invokevirtual 52, 3) := by decide +kernel
theorem dX5_strands_6 : decode cX5_strands 6 = .ok (.imul, 1) := by decide +kernel
theorem dX5_strands_7 : decode cX5_strands 7 = .ok (.aload_n 0, 1) := by decide +kernel
theorem dX5_strands_8 : decode cX5_strands 8 = .ok (.getfield 7, 3) := by decide +kernel
theorem dX5_strands_11 : decode cX5_strands 11 = .ok (.iconst 3, 1) := by decide +kernel
theorem dX5_strands_12 : decode cX5_strands 12 = .ok (.laload, 1) := by decide +kernel
theorem dX5_strands_13 : decode cX5_strands 13 = .ok (.iload_n 1, 1) := by decide +kernel
theorem dX5_strands_14 : decode cX5_strands 14 = .ok (.i2l, 1) := by decide +kernel
theorem dX5_strands_15 : decode cX5_strands 15 = .ok (.lcmp, 1) := by decide +kernel
theorem dX5_strands_16 : decode cX5_strands 16 = .ok (.ifCond .ne 7, 3) := by decide +kernel
theorem dX5_strands_19 : decode cX5_strands 19 = .ok (.iconst 1, 1) := by decide +kernel
theorem dX5_strands_20 : decode cX5_strands 20 = .ok (.goto 4, 3) := by decide +kernel
theorem dX5_strands_23 : decode cX5_strands 23 = .ok (.iconst 0, 1) := by decide +kernel
theorem dX5_strands_24 : decode cX5_strands 24 = .ok (.iadd, 1) := by decide +kernel
theorem dX5_strands_25 : decode cX5_strands 25 = .ok (.ireturn, 1) := by decide +kernel
theorem dX5_hanging_0 : decode cX5_hanging 0 = .ok (.iconst 0, 1) := by decide +kernel
theorem dX5_hanging_1 : decode cX5_hanging 1 = .ok (.istore_n 1, 1) := by decide +kernel
theorem dX5_hanging_2 : decode cX5_hanging 2 = .ok (.iconst 0, 1) := by decide +kernel
theorem dX5_hanging_3 : decode cX5_hanging 3 = .ok (.istore_n 2, 1) := by decide +kernel
theorem dX5_hanging_4 : decode cX5_hanging 4 = .ok (.iload_n 2, 1) := by decide +kernel
theorem dX5_hanging_5 : decode cX5_hanging 5 = .ok (.iconst 4, 1) := by decide +kernel
theorem dX5_hanging_6 : decode cX5_hanging 6 = .ok (.if_icmp .ge 32, 3) := by decide +kernel
theorem dX5_hanging_9 : decode cX5_hanging 9 = .ok (.iload_n 1, 1) := by decide +kernel
theorem dX5_hanging_10 : decode cX5_hanging 10 = .ok (.aload_n 0, 1) := by decide +kernel
theorem dX5_hanging_11 : decode cX5_hanging 11 = .ok (.iload_n 2, 1) := by decide +kernel
theorem dX5_hanging_12 : decode cX5_hanging 12 = .ok (.invokevirtual 56, 3) := by decide +kernel
theorem dX5_hanging_15 : decode cX5_hanging 15 = .ok (.sipush 10000, 3) := by decide +kernel
theorem dX5_hanging_18 : decode cX5_hanging 18 = .ok (.aload_n 0, 1) := by decide +kernel
theorem dX5_hanging_19 : decode cX5_hanging 19 = .ok (.getfield 7, 3) := by decide +kernel
theorem dX5_hanging_22 : decode cX5_hanging 22 = .ok (.bipush 13, 2) := by decide +kernel
theorem dX5_hanging_24 : decode cX5_hanging 24 = .ok (.iload_n 2, 1) := by decide +kernel
theorem dX5_hanging_25 : decode cX5_hanging 25 = .ok (.iadd, 1) := by decide +kernel
theorem dX5_hanging_26 : decode cX5_hanging 26 = .ok (.laload, 1) := by decide +kernel
theorem dX5_hanging_27 : decode cX5_hanging 27 = .ok (.l2i, 1) := by decide +kernel
theorem dX5_hanging_28 : decode cX5_hanging 28 = .ok (.isub, 1) := by decide +kernel
theorem dX5_hanging_29 : decode cX5_hanging 29 = .ok (.imul, 1) := by decide +kernel
theorem dX5_hanging_30 : decode cX5_hanging 30 = .ok (.iadd, 1) := by decide +kernel
theorem dX5_hanging_31 : decode cX5_hanging 31 = .ok (.istore_n 1, 1) := by decide +kernel
theorem dX5_hanging_32 : decode cX5_hanging 32 = .ok (.iinc 2 1, 3) := by decide +kernel
theorem dX5_hanging_35 : decode cX5_hanging 35 = .ok (.goto (-31), 3) := by decide +kernel
theorem dX5_hanging_38 : decode cX5_hanging 38 = .ok (.iload_n 1, 1) := by decide +kernel
theorem dX5_hanging_39 : decode cX5_hanging 39 = .ok (.ireturn, 1) := by decide +kernel
theorem dX5_inHand_0 : decode cX5_inHand 0 = .ok (.aload_n 0, 1) := by decide +kernel
theorem dX5_inHand_1 : decode cX5_inHand 1 = .ok (.getfield 7, 3) := by decide +kernel
theorem dX5_inHand_4 : decode cX5_inHand 4 = .ok (.iconst 0, 1) := by decide +kernel
theorem dX5_inHand_5 : decode cX5_inHand 5 = .ok (.laload, 1) := by decide +kernel
theorem dX5_inHand_6 : decode cX5_inHand 6 = .ok (.l2i, 1) := by decide +kernel
theorem dX5_inHand_7 : decode cX5_inHand 7 = .ok (.aload_n 0, 1) := by decide +kernel
theorem dX5_inHand_8 : decode cX5_inHand 8 = .ok (.invokevirtual 59, 3) := by decide +kernel
theorem dX5_inHand_11 : decode cX5_inHand 11 = .ok (.isub, 1) := by decide +kernel
theorem dX5_inHand_12 : decode cX5_inHand 12 = .ok (.ireturn, 1) := by decide +kernel
theorem dX5_passes_0 : decode cX5_passes 0 = .ok (.iconst 2, 1) := by decide +kernel
theorem dX5_passes_1 : decode cX5_passes 1 = .ok (.aload_n 0, 1) := by decide +kernel
theorem dX5_passes_2 : decode cX5_passes 2 = .ok (.getfield 7, 3) := by decide +kernel
theorem dX5_passes_5 : decode cX5_passes 5 = .ok (.iconst 2, 1) := by decide +kernel
theorem dX5_passes_6 : decode cX5_passes 6 = .ok (.laload, 1) := by decide +kernel
theorem dX5_passes_7 : decode cX5_passes 7 = .ok (.l2i, 1) := by decide +kernel
theorem dX5_passes_8 : decode cX5_passes 8 = .ok (.imul, 1) := by decide +kernel
theorem dX5_passes_9 : decode cX5_passes 9 = .ok (.aload_n 0, 1) := by decide +kernel
theorem dX5_passes_10 : decode cX5_passes 10 = .ok (.getfield 7, 3) := by decide +kernel
theorem dX5_passes_13 : decode cX5_passes 13 = .ok (.iconst 3, 1) := by decide +kernel
theorem dX5_passes_14 : decode cX5_passes 14 = .ok (.laload, 1) := by decide +kernel
theorem dX5_passes_15 : decode cX5_passes 15 = .ok (.ldc2_w 33, 3) := by decide +kernel
theorem dX5_passes_18 : decode cX5_passes 18 = .ok (.lcmp, 1) := by decide +kernel
theorem dX5_passes_19 : decode cX5_passes 19 = .ok (.ifCond .ne 7, 3) := by decide +kernel
theorem dX5_passes_22 : decode cX5_passes 22 = .ok (.iconst 0, 1) := by decide +kernel
theorem dX5_passes_23 : decode cX5_passes 23 = .ok (.goto 4, 3) := by decide +kernel
theorem dX5_passes_26 : decode cX5_passes 26 = .ok (.iconst 1, 1) := by decide +kernel
theorem dX5_passes_27 : decode cX5_passes 27 = .ok (.iadd, 1) := by decide +kernel
theorem dX5_passes_28 : decode cX5_passes 28 = .ok (.ireturn, 1) := by decide +kernel
theorem dX5_behind_0 : decode cX5_behind 0 = .ok (.lload_n 1, 1) := by decide +kernel
theorem dX5_behind_1 : decode cX5_behind 1 = .ok (.aload_n 0, 1) := by decide +kernel
theorem dX5_behind_2 : decode cX5_behind 2 = .ok (.getfield 7, 3) := by decide +kernel
theorem dX5_behind_5 : decode cX5_behind 5 = .ok (.iconst 1, 1) := by decide +kernel
theorem dX5_behind_6 : decode cX5_behind 6 = .ok (.laload, 1) := by decide +kernel
theorem dX5_behind_7 : decode cX5_behind 7 = .ok (.lmul, 1) := by decide +kernel
theorem dX5_behind_8 : decode cX5_behind 8 = .ok (.ldc2_w 63, 3) := by decide +kernel
theorem dX5_behind_11 : decode cX5_behind 11 = .ok (.ldiv, 1) := by decide +kernel
theorem dX5_behind_12 : decode cX5_behind 12 = .ok (.lstore 4, 2) := by decide +kernel
theorem dX5_behind_14 : decode cX5_behind 14 = .ok (.iload_n 3, 1) := by decide +kernel
theorem dX5_behind_15 : decode cX5_behind 15 = .ok (.ifCond .eq 10, 3) := by decide +kernel
theorem dX5_behind_18 : decode cX5_behind 18 = .ok (.lload_n 1, 1) := by decide +kernel
theorem dX5_behind_19 : decode cX5_behind 19 = .ok (.lload 4, 2) := by decide +kernel
theorem dX5_behind_21 : decode cX5_behind 21 = .ok (.lsub, 1) := by decide +kernel
theorem dX5_behind_22 : decode cX5_behind 22 = .ok (.goto 7, 3) := by decide +kernel
theorem dX5_behind_25 : decode cX5_behind 25 = .ok (.lload_n 1, 1) := by decide +kernel
theorem dX5_behind_26 : decode cX5_behind 26 = .ok (.lload 4, 2) := by decide +kernel
theorem dX5_behind_28 : decode cX5_behind 28 = .ok (.ladd, 1) := by decide +kernel
theorem dX5_behind_29 : decode cX5_behind 29 = .ok (.lreturn, 1) := by decide +kernel
theorem dX5_forceAt_0 : decode cX5_forceAt 0 = .ok (.iload_n 1, 1) := by decide +kernel
theorem dX5_forceAt_1 : decode cX5_forceAt 1 = .ok (.i2l, 1) := by decide +kernel
theorem dX5_forceAt_2 : decode cX5_forceAt 2 = .ok (.lstore 4, 2) := by decide +kernel
theorem dX5_forceAt_4 : decode cX5_forceAt 4 = .ok (.iconst 0, 1) := by decide +kernel
theorem dX5_forceAt_5 : decode cX5_forceAt 5 = .ok (.istore 6, 2) := by decide +kernel
theorem dX5_forceAt_7 : decode cX5_forceAt 7 = .ok (.iload 6, 2) := by decide +kernel
theorem dX5_forceAt_9 : decode cX5_forceAt 9 = .ok (.iload_n 2, 1) := by decide +kernel
theorem dX5_forceAt_10 : decode cX5_forceAt 10 = .ok (.if_icmp .ge 18, 3) := by decide +kernel
theorem dX5_forceAt_13 : decode cX5_forceAt 13 = .ok (.aload_n 0, 1) := by decide +kernel
theorem dX5_forceAt_14 : decode cX5_forceAt 14 = .ok (.lload 4, 2) := by decide +kernel
theorem dX5_forceAt_16 : decode cX5_forceAt 16 = .ok (.iload_n 3, 1) := by decide +kernel
theorem dX5_forceAt_17 : decode cX5_forceAt 17 = .ok (.invokevirtual 65, 3) := by decide +kernel
theorem dX5_forceAt_20 : decode cX5_forceAt 20 = .ok (.lstore 4, 2) := by decide +kernel
theorem dX5_forceAt_22 : decode cX5_forceAt 22 = .ok (.iinc 6 1, 3) := by decide +kernel
theorem dX5_forceAt_25 : decode cX5_forceAt 25 = .ok (.goto (-18), 3) := by decide +kernel
theorem dX5_forceAt_28 : decode cX5_forceAt 28 = .ok (.lload 4, 2) := by decide +kernel
theorem dX5_forceAt_30 : decode cX5_forceAt 30 = .ok (.lreturn, 1) := by decide +kernel
theorem dX5_pullOn_0 : decode cX5_pullOn 0 = .ok (.iload_n 2, 1) := by decide +kernel
theorem dX5_pullOn_1 : decode cX5_pullOn 1 = .ok (.i2l, 1) := by decide +kernel
theorem dX5_pullOn_2 : decode cX5_pullOn 2 = .ok (.lstore 4, 2) := by decide +kernel
theorem dX5_pullOn_4 : decode cX5_pullOn 4 = .ok (.lconst 0, 1) := by decide +kernel
theorem dX5_pullOn_5 : decode cX5_pullOn 5 = .ok (.lstore 6, 2) := by decide +kernel
theorem dX5_pullOn_7 : decode cX5_pullOn 7 = .ok (.iconst 0, 1) := by decide +kernel
theorem dX5_pullOn_8 : decode cX5_pullOn 8 = .ok (.istore 8, 2) := by decide +kernel
theorem dX5_pullOn_10 : decode cX5_pullOn 10 = .ok (.iload 8, 2) := by decide +kernel
theorem dX5_pullOn_12 : decode cX5_pullOn 12 = .ok (.i2l, 1) := by decide +kernel
theorem dX5_pullOn_13 : decode cX5_pullOn 13 = .ok (.aload_n 0, 1) := by decide +kernel
theorem dX5_pullOn_14 : decode cX5_pullOn 14 = .ok (.getfield 7, 3) := by decide +kernel
theorem dX5_pullOn_17 : decode cX5_pullOn 17 = .ok (.iconst 2, 1) := by decide +kernel
theorem dX5_pullOn_18 : decode cX5_pullOn 18 = .ok (.laload, 1) := by decide +kernel
theorem dX5_pullOn_19 : decode cX5_pullOn 19 = .ok (.lcmp, 1) := by decide +kernel
theorem dX5_pullOn_20 : decode cX5_pullOn 20 = .ok (.ifCond .ge 57, 3) := by decide +kernel
theorem dX5_pullOn_23 : decode cX5_pullOn 23 = .ok (.aload_n 0, 1) := by decide +kernel
theorem dX5_pullOn_24 : decode cX5_pullOn 24 = .ok (.lload 4, 2) := by decide +kernel
theorem dX5_pullOn_26 : decode cX5_pullOn 26 = .ok (.iload_n 3, 1) := by decide +kernel
theorem dX5_pullOn_27 : decode cX5_pullOn 27 = .ok (.invokevirtual 65, 3) := by decide +kernel
theorem dX5_pullOn_30 : decode cX5_pullOn 30 = .ok (.lstore 9, 2) := by decide +kernel
theorem dX5_pullOn_32 : decode cX5_pullOn 32 = .ok (.aload_n 0, 1) := by decide +kernel
theorem dX5_pullOn_33 : decode cX5_pullOn 33 = .ok (.lload 9, 2) := by decide +kernel
theorem dX5_pullOn_35 : decode cX5_pullOn 35 = .ok (.iload_n 3, 1) := by decide +kernel
theorem dX5_pullOn_36 : decode cX5_pullOn 36 = .ok (.invokevirtual 65, 3) := by decide +kernel
theorem dX5_pullOn_39 : decode cX5_pullOn 39 = .ok (.lstore 4, 2) := by decide +kernel
theorem dX5_pullOn_41 : decode cX5_pullOn 41 = .ok (.lload 6, 2) := by decide +kernel
theorem dX5_pullOn_43 : decode cX5_pullOn 43 = .ok (.aload_n 0, 1) := by decide +kernel
theorem dX5_pullOn_44 : decode cX5_pullOn 44 = .ok (.getfield 7, 3) := by decide +kernel
theorem dX5_pullOn_47 : decode cX5_pullOn 47 = .ok (.bipush 17, 2) := by decide +kernel
theorem dX5_pullOn_49 : decode cX5_pullOn 49 = .ok (.iload 8, 2) := by decide +kernel
theorem dX5_pullOn_51 : decode cX5_pullOn 51 = .ok (.iadd, 1) := by decide +kernel
theorem dX5_pullOn_52 : decode cX5_pullOn 52 = .ok (.laload, 1) := by decide +kernel
theorem dX5_pullOn_53 : decode cX5_pullOn 53 = .ok (.iload_n 1, 1) := by decide +kernel
theorem dX5_pullOn_54 : decode cX5_pullOn 54 = .ok (.i2l, 1) := by decide +kernel
theorem dX5_pullOn_55 : decode cX5_pullOn 55 = .ok (.lcmp, 1) := by decide +kernel
theorem dX5_pullOn_56 : decode cX5_pullOn 56 = .ok (.ifCond .ne 11, 3) := by decide +kernel
theorem dX5_pullOn_59 : decode cX5_pullOn 59 = .ok (.lload 9, 2) := by decide +kernel
theorem dX5_pullOn_61 : decode cX5_pullOn 61 = .ok (.lload 4, 2) := by decide +kernel
theorem dX5_pullOn_63 : decode cX5_pullOn 63 = .ok (.ladd, 1) := by decide +kernel
theorem dX5_pullOn_64 : decode cX5_pullOn 64 = .ok (.goto 4, 3) := by decide +kernel
theorem dX5_pullOn_67 : decode cX5_pullOn 67 = .ok (.lconst 0, 1) := by decide +kernel
theorem dX5_pullOn_68 : decode cX5_pullOn 68 = .ok (.ladd, 1) := by decide +kernel
theorem dX5_pullOn_69 : decode cX5_pullOn 69 = .ok (.lstore 6, 2) := by decide +kernel
theorem dX5_pullOn_71 : decode cX5_pullOn 71 = .ok (.iinc 8 1, 3) := by decide +kernel
theorem dX5_pullOn_74 : decode cX5_pullOn 74 = .ok (.goto (-64), 3) := by decide +kernel
theorem dX5_pullOn_77 : decode cX5_pullOn 77 = .ok (.aload_n 0, 1) := by decide +kernel
theorem dX5_pullOn_78 : decode cX5_pullOn 78 = .ok (.getfield 7, 3) := by decide +kernel
theorem dX5_pullOn_81 : decode cX5_pullOn 81 = .ok (.iconst 3, 1) := by decide +kernel
theorem dX5_pullOn_82 : decode cX5_pullOn 82 = .ok (.laload, 1) := by decide +kernel
theorem dX5_pullOn_83 : decode cX5_pullOn 83 = .ok (.iload_n 1, 1) := by decide +kernel
theorem dX5_pullOn_84 : decode cX5_pullOn 84 = .ok (.i2l, 1) := by decide +kernel
theorem dX5_pullOn_85 : decode cX5_pullOn 85 = .ok (.lcmp, 1) := by decide +kernel
theorem dX5_pullOn_86 : decode cX5_pullOn 86 = .ok (.ifCond .ne 16, 3) := by decide +kernel
theorem dX5_pullOn_89 : decode cX5_pullOn 89 = .ok (.lload 6, 2) := by decide +kernel
theorem dX5_pullOn_91 : decode cX5_pullOn 91 = .ok (.aload_n 0, 1) := by decide +kernel
theorem dX5_pullOn_92 : decode cX5_pullOn 92 = .ok (.lload 4, 2) := by decide +kernel
theorem dX5_pullOn_94 : decode cX5_pullOn 94 = .ok (.iload_n 3, 1) := by decide +kernel
theorem dX5_pullOn_95 : decode cX5_pullOn 95 = .ok (.invokevirtual 65, 3) := by decide +kernel
theorem dX5_pullOn_98 : decode cX5_pullOn 98 = .ok (.ladd, 1) := by decide +kernel
theorem dX5_pullOn_99 : decode cX5_pullOn 99 = .ok (.goto 5, 3) := by decide +kernel
theorem dX5_pullOn_102 : decode cX5_pullOn 102 = .ok (.lload 6, 2) := by decide +kernel
theorem dX5_pullOn_104 : decode cX5_pullOn 104 = .ok (.lreturn, 1) := by decide +kernel
theorem dX5_least_0 : decode cX5_least 0 = .ok (.aload_n 0, 1) := by decide +kernel
theorem dX5_least_1 : decode cX5_least 1 = .ok (.iload_n 1, 1) := by decide +kernel
theorem dX5_least_2 : decode cX5_least 2 = .ok (.invokevirtual 56, 3) := by decide +kernel
theorem dX5_least_5 : decode cX5_least 5 = .ok (.ifCond .eq 24, 3) := by decide +kernel
theorem dX5_least_8 : decode cX5_least 8 = .ok (.aload_n 0, 1) := by decide +kernel
theorem dX5_least_9 : decode cX5_least 9 = .ok (.iload_n 1, 1) := by decide +kernel
theorem dX5_least_10 : decode cX5_least 10 = .ok (.ldc 69, 2) := by decide +kernel
theorem dX5_least_12 : decode cX5_least 12 = .ok (.iload_n 2, 1) := by decide +kernel
theorem dX5_least_13 : decode cX5_least 13 = .ok (.invokevirtual 70, 3) := by decide +kernel
theorem dX5_least_16 : decode cX5_least 16 = .ok (.aload_n 0, 1) := by decide +kernel
theorem dX5_least_17 : decode cX5_least 17 = .ok (.getfield 7, 3) := by decide +kernel
theorem dX5_least_20 : decode cX5_least 20 = .ok (.bipush 9, 2) := by decide +kernel
theorem dX5_least_22 : decode cX5_least 22 = .ok (.iload_n 1, 1) := by decide +kernel
theorem dX5_least_23 : decode cX5_least 23 = .ok (.iadd, 1) := by decide +kernel
theorem dX5_least_24 : decode cX5_least 24 = .ok (.laload, 1) := by decide +kernel
theorem dX5_least_25 : decode cX5_least 25 = .ok (.lcmp, 1) := by decide +kernel
theorem dX5_least_26 : decode cX5_least 26 = .ok (.ifCond .ge 5, 3) := by decide +kernel
theorem dX5_least_29 : decode cX5_least 29 = .ok (.iconst (-1), 1) := by decide +kernel
theorem dX5_least_30 : decode cX5_least 30 = .ok (.ireturn, 1) := by decide +kernel
theorem dX5_least_31 : decode cX5_least 31 = .ok (.iconst (-1), 1) := by decide +kernel
theorem dX5_least_32 : decode cX5_least 32 = .ok (.istore_n 3, 1) := by decide +kernel
theorem dX5_least_33 : decode cX5_least 33 = .ok (.ldc 74, 2) := by decide +kernel
theorem dX5_least_35 : decode cX5_least 35 = .ok (.istore 4, 2) := by decide +kernel
theorem dX5_least_37 : decode cX5_least 37 = .ok (.iload 4, 2) := by decide +kernel
theorem dX5_least_39 : decode cX5_least 39 = .ok (.ifCond .le 53, 3) := by decide +kernel
theorem dX5_least_42 : decode cX5_least 42 = .ok (.iload_n 3, 1) := by decide +kernel
theorem dX5_least_43 : decode cX5_least 43 = .ok (.iload 4, 2) := by decide +kernel
theorem dX5_least_45 : decode cX5_least 45 = .ok (.iadd, 1) := by decide +kernel
theorem dX5_least_46 : decode cX5_least 46 = .ok (.istore 5, 2) := by decide +kernel
theorem dX5_least_48 : decode cX5_least 48 = .ok (.iload 5, 2) := by decide +kernel
theorem dX5_least_50 : decode cX5_least 50 = .ok (.ldc 69, 2) := by decide +kernel
theorem dX5_least_52 : decode cX5_least 52 = .ok (.if_icmp .gt 29, 3) := by decide +kernel
theorem dX5_least_55 : decode cX5_least 55 = .ok (.aload_n 0, 1) := by decide +kernel
theorem dX5_least_56 : decode cX5_least 56 = .ok (.iload_n 1, 1) := by decide +kernel
theorem dX5_least_57 : decode cX5_least 57 = .ok (.iload 5, 2) := by decide +kernel
theorem dX5_least_59 : decode cX5_least 59 = .ok (.iload_n 2, 1) := by decide +kernel
theorem dX5_least_60 : decode cX5_least 60 = .ok (.invokevirtual 70, 3) := by decide +kernel
theorem dX5_least_63 : decode cX5_least 63 = .ok (.aload_n 0, 1) := by decide +kernel
theorem dX5_least_64 : decode cX5_least 64 = .ok (.getfield 7, 3) := by decide +kernel
theorem dX5_least_67 : decode cX5_least 67 = .ok (.bipush 9, 2) := by decide +kernel
theorem dX5_least_69 : decode cX5_least 69 = .ok (.iload_n 1, 1) := by decide +kernel
theorem dX5_least_70 : decode cX5_least 70 = .ok (.iadd, 1) := by decide +kernel
theorem dX5_least_71 : decode cX5_least 71 = .ok (.laload, 1) := by decide +kernel
theorem dX5_least_72 : decode cX5_least 72 = .ok (.lcmp, 1) := by decide +kernel
theorem dX5_least_73 : decode cX5_least 73 = .ok (.ifCond .ge 8, 3) := by decide +kernel
theorem dX5_least_76 : decode cX5_least 76 = .ok (.iload 5, 2) := by decide +kernel
theorem dX5_least_78 : decode cX5_least 78 = .ok (.goto 4, 3) := by decide +kernel
theorem dX5_least_81 : decode cX5_least 81 = .ok (.iload_n 3, 1) := by decide +kernel
theorem dX5_least_82 : decode cX5_least 82 = .ok (.istore_n 3, 1) := by decide +kernel
theorem dX5_least_83 : decode cX5_least 83 = .ok (.iload 4, 2) := by decide +kernel
theorem dX5_least_85 : decode cX5_least 85 = .ok (.iconst 2, 1) := by decide +kernel
theorem dX5_least_86 : decode cX5_least 86 = .ok (.idiv, 1) := by decide +kernel
theorem dX5_least_87 : decode cX5_least 87 = .ok (.istore 4, 2) := by decide +kernel
theorem dX5_least_89 : decode cX5_least 89 = .ok (.goto (-52), 3) := by decide +kernel
theorem dX5_least_92 : decode cX5_least 92 = .ok (.iload_n 3, 1) := by decide +kernel
theorem dX5_least_93 : decode cX5_least 93 = .ok (.iconst 1, 1) := by decide +kernel
theorem dX5_least_94 : decode cX5_least 94 = .ok (.iadd, 1) := by decide +kernel
theorem dX5_least_95 : decode cX5_least 95 = .ok (.ireturn, 1) := by decide +kernel
theorem dX5_puts_0 : decode cX5_puts 0 = .ok (.aload_n 0, 1) := by decide +kernel
theorem dX5_puts_1 : decode cX5_puts 1 = .ok (.invokevirtual 75, 3) := by decide +kernel
theorem dX5_puts_4 : decode cX5_puts 4 = .ok (.aload_n 0, 1) := by decide +kernel
theorem dX5_puts_5 : decode cX5_puts 5 = .ok (.getfield 7, 3) := by decide +kernel
theorem dX5_puts_8 : decode cX5_puts 8 = .ok (.iload_n 1, 1) := by decide +kernel
theorem dX5_puts_9 : decode cX5_puts 9 = .ok (.laload, 1) := by decide +kernel
theorem dX5_puts_10 : decode cX5_puts 10 = .ok (.l2i, 1) := by decide +kernel
theorem dX5_puts_11 : decode cX5_puts 11 = .ok (.istore_n 3, 1) := by decide +kernel
theorem dX5_puts_12 : decode cX5_puts 12 = .ok (.aload_n 0, 1) := by decide +kernel
theorem dX5_puts_13 : decode cX5_puts 13 = .ok (.getfield 7, 3) := by decide +kernel
theorem dX5_puts_16 : decode cX5_puts 16 = .ok (.iload_n 1, 1) := by decide +kernel
theorem dX5_puts_17 : decode cX5_puts 17 = .ok (.iload_n 2, 1) := by decide +kernel
theorem dX5_puts_18 : decode cX5_puts 18 = .ok (.i2l, 1) := by decide +kernel
theorem dX5_puts_19 : decode cX5_puts 19 = .ok (.lastore, 1) := by decide +kernel
theorem dX5_puts_20 : decode cX5_puts 20 = .ok (.aload_n 0, 1) := by decide +kernel
theorem dX5_puts_21 : decode cX5_puts 21 = .ok (.iload_n 3, 1) := by decide +kernel
theorem dX5_puts_22 : decode cX5_puts 22 = .ok (.invokevirtual 78, 3) := by decide +kernel
theorem dX5_puts_25 : decode cX5_puts 25 = .ok (.ireturn, 1) := by decide +kernel
theorem dX5_setWeight_0 : decode cX5_setWeight 0 = .ok (.iload_n 1, 1) := by decide +kernel
theorem dX5_setWeight_1 : decode cX5_setWeight 1 = .ok (.invokestatic 81, 3) := by decide +kernel
theorem dX5_setWeight_4 : decode cX5_setWeight 4 = .ok (.ifCond .ne 9, 3) := by decide +kernel
theorem dX5_setWeight_7 : decode cX5_setWeight 7 = .ok (.aload_n 0, 1) := by decide +kernel
theorem dX5_setWeight_8 : decode cX5_setWeight 8 = .ok (.iconst 1, 1) := by decide +kernel
theorem dX5_setWeight_9 : decode cX5_setWeight 9 = .ok (.invokevirtual 85, 3) := by decide +kernel
theorem dX5_setWeight_12 : decode cX5_setWeight 12 = .ok (.ireturn, 1) := by decide +kernel
theorem dX5_setWeight_13 : decode cX5_setWeight 13 = .ok (.iload_n 2, 1) := by decide +kernel
theorem dX5_setWeight_14 : decode cX5_setWeight 14 = .ok (.i2l, 1) := by decide +kernel
theorem dX5_setWeight_15 : decode cX5_setWeight 15 = .ok (.lconst 0, 1) := by decide +kernel
theorem dX5_setWeight_16 : decode cX5_setWeight 16 = .ok (.ldc2_w 88, 3) := by decide +kernel
theorem dX5_setWeight_19 : decode cX5_setWeight 19 = .ok (.invokestatic 43, 3) := by decide +kernel
theorem dX5_setWeight_22 : decode cX5_setWeight 22 = .ok (.ifCond .eq 15, 3) := by decide +kernel
theorem dX5_setWeight_25 : decode cX5_setWeight 25 = .ok (.aload_n 0, 1) := by decide +kernel
theorem dX5_setWeight_26 : decode cX5_setWeight 26 = .ok (.bipush 9, 2) := by decide +kernel
theorem dX5_setWeight_28 : decode cX5_setWeight 28 = .ok (.iload_n 1, 1) := by decide +kernel
theorem dX5_setWeight_29 : decode cX5_setWeight 29 = .ok (.iadd, 1) := by decide +kernel
theorem dX5_setWeight_30 : decode cX5_setWeight 30 = .ok (.iload_n 2, 1) := by decide +kernel
theorem dX5_setWeight_31 : decode cX5_setWeight 31 = .ok (.invokevirtual 90, 3) := by decide +kernel
theorem dX5_setWeight_34 : decode cX5_setWeight 34 = .ok (.goto 8, 3) := by decide +kernel
theorem dX5_setWeight_37 : decode cX5_setWeight 37 = .ok (.aload_n 0, 1) := by decide +kernel
theorem dX5_setWeight_38 : decode cX5_setWeight 38 = .ok (.iconst 2, 1) := by decide +kernel
theorem dX5_setWeight_39 : decode cX5_setWeight 39 = .ok (.invokevirtual 85, 3) := by decide +kernel
theorem dX5_setWeight_42 : decode cX5_setWeight 42 = .ok (.ireturn, 1) := by decide +kernel
theorem dX5_setFriction_0 : decode cX5_setFriction 0 = .ok (.iload_n 1, 1) := by decide +kernel
theorem dX5_setFriction_1 : decode cX5_setFriction 1 = .ok (.i2l, 1) := by decide +kernel
theorem dX5_setFriction_2 : decode cX5_setFriction 2 = .ok (.lconst 0, 1) := by decide +kernel
theorem dX5_setFriction_3 : decode cX5_setFriction 3 = .ok (.ldc2_w 94, 3) := by decide +kernel
theorem dX5_setFriction_6 : decode cX5_setFriction 6 = .ok (.invokestatic 43, 3) := by decide +kernel
theorem dX5_setFriction_9 : decode cX5_setFriction 9 = .ok (.ifCond .eq 12, 3) := by decide +kernel
theorem dX5_setFriction_12 : decode cX5_setFriction 12 = .ok (.aload_n 0, 1) := by decide +kernel
theorem dX5_setFriction_13 : decode cX5_setFriction 13 = .ok (.iconst 1, 1) := by decide +kernel
theorem dX5_setFriction_14 : decode cX5_setFriction 14 = .ok (.iload_n 1, 1) := by decide +kernel
theorem dX5_setFriction_15 : decode cX5_setFriction 15 = .ok (.invokevirtual 90, 3) := by decide +kernel
theorem dX5_setFriction_18 : decode cX5_setFriction 18 = .ok (.goto 8, 3) := by decide +kernel
theorem dX5_setFriction_21 : decode cX5_setFriction 21 = .ok (.aload_n 0, 1) := by decide +kernel
theorem dX5_setFriction_22 : decode cX5_setFriction 22 = .ok (.iconst 1, 1) := by decide +kernel
theorem dX5_setFriction_23 : decode cX5_setFriction 23 = .ok (.invokevirtual 85, 3) := by decide +kernel
theorem dX5_setFriction_26 : decode cX5_setFriction 26 = .ok (.ireturn, 1) := by decide +kernel
theorem dX5_setLength_0 : decode cX5_setLength 0 = .ok (.iload_n 1, 1) := by decide +kernel
theorem dX5_setLength_1 : decode cX5_setLength 1 = .ok (.i2l, 1) := by decide +kernel
theorem dX5_setLength_2 : decode cX5_setLength 2 = .ok (.ldc2_w 35, 3) := by decide +kernel
theorem dX5_setLength_5 : decode cX5_setLength 5 = .ok (.ldc2_w 96, 3) := by decide +kernel
theorem dX5_setLength_8 : decode cX5_setLength 8 = .ok (.invokestatic 43, 3) := by decide +kernel
theorem dX5_setLength_11 : decode cX5_setLength 11 = .ok (.ifCond .ne 9, 3) := by decide +kernel
theorem dX5_setLength_14 : decode cX5_setLength 14 = .ok (.aload_n 0, 1) := by decide +kernel
theorem dX5_setLength_15 : decode cX5_setLength 15 = .ok (.iconst 1, 1) := by decide +kernel
theorem dX5_setLength_16 : decode cX5_setLength 16 = .ok (.invokevirtual 85, 3) := by decide +kernel
theorem dX5_setLength_19 : decode cX5_setLength 19 = .ok (.ireturn, 1) := by decide +kernel
theorem dX5_setLength_20 : decode cX5_setLength 20 = .ok (.iload_n 1, 1) := by decide +kernel
theorem dX5_setLength_21 : decode cX5_setLength 21 = .ok (.aload_n 0, 1) := by decide +kernel
theorem dX5_setLength_22 : decode cX5_setLength 22 = .ok (.invokevirtual 59, 3) := by decide +kernel
theorem dX5_setLength_25 : decode cX5_setLength 25 = .ok (.if_icmp .ge 9, 3) := by decide +kernel
theorem dX5_setLength_28 : decode cX5_setLength 28 = .ok (.aload_n 0, 1) := by decide +kernel
theorem dX5_setLength_29 : decode cX5_setLength 29 = .ok (.iconst 2, 1) := by decide +kernel
theorem dX5_setLength_30 : decode cX5_setLength 30 = .ok (.invokevirtual 85, 3) := by decide +kernel
theorem dX5_setLength_33 : decode cX5_setLength 33 = .ok (.ireturn, 1) := by decide +kernel
theorem dX5_setLength_34 : decode cX5_setLength 34 = .ok (.aload_n 0, 1) := by decide +kernel
theorem dX5_setLength_35 : decode cX5_setLength 35 = .ok (.invokevirtual 75, 3) := by decide +kernel
theorem dX5_setLength_38 : decode cX5_setLength 38 = .ok (.aload_n 0, 1) := by decide +kernel
theorem dX5_setLength_39 : decode cX5_setLength 39 = .ok (.getfield 7, 3) := by decide +kernel
theorem dX5_setLength_42 : decode cX5_setLength 42 = .ok (.iconst 0, 1) := by decide +kernel
theorem dX5_setLength_43 : decode cX5_setLength 43 = .ok (.iload_n 1, 1) := by decide +kernel
theorem dX5_setLength_44 : decode cX5_setLength 44 = .ok (.i2l, 1) := by decide +kernel
theorem dX5_setLength_45 : decode cX5_setLength 45 = .ok (.lastore, 1) := by decide +kernel
theorem dX5_setLength_46 : decode cX5_setLength 46 = .ok (.aload_n 0, 1) := by decide +kernel
theorem dX5_setLength_47 : decode cX5_setLength 47 = .ok (.aload_n 0, 1) := by decide +kernel
theorem dX5_setLength_48 : decode cX5_setLength 48 = .ok (.invokevirtual 98, 3) := by decide +kernel
theorem dX5_setLength_51 : decode cX5_setLength 51 = .ok (.invokevirtual 78, 3) := by decide +kernel
theorem dX5_setLength_54 : decode cX5_setLength 54 = .ok (.ireturn, 1) := by decide +kernel
theorem dX5_addPulley_0 : decode cX5_addPulley 0 = .ok (.iload_n 1, 1) := by decide +kernel
theorem dX5_addPulley_1 : decode cX5_addPulley 1 = .ok (.invokestatic 81, 3) := by decide +kernel
theorem dX5_addPulley_4 : decode cX5_addPulley 4 = .ok (.ifCond .ne 9, 3) := by decide +kernel
theorem dX5_addPulley_7 : decode cX5_addPulley 7 = .ok (.aload_n 0, 1) := by decide +kernel
theorem dX5_addPulley_8 : decode cX5_addPulley 8 = .ok (.iconst 1, 1) := by decide +kernel
theorem dX5_addPulley_9 : decode cX5_addPulley 9 = .ok (.invokevirtual 85, 3) := by decide +kernel
theorem dX5_addPulley_12 : decode cX5_addPulley 12 = .ok (.ireturn, 1) := by decide +kernel
theorem dX5_addPulley_13 : decode cX5_addPulley 13 = .ok (.aload_n 0, 1) := by decide +kernel
theorem dX5_addPulley_14 : decode cX5_addPulley 14 = .ok (.getfield 7, 3) := by decide +kernel
theorem dX5_addPulley_17 : decode cX5_addPulley 17 = .ok (.iconst 2, 1) := by decide +kernel
theorem dX5_addPulley_18 : decode cX5_addPulley 18 = .ok (.laload, 1) := by decide +kernel
theorem dX5_addPulley_19 : decode cX5_addPulley 19 = .ok (.ldc2_w 31, 3) := by decide +kernel
theorem dX5_addPulley_22 : decode cX5_addPulley 22 = .ok (.lcmp, 1) := by decide +kernel
theorem dX5_addPulley_23 : decode cX5_addPulley 23 = .ok (.ifCond .eq 29, 3) := by decide +kernel
theorem dX5_addPulley_26 : decode cX5_addPulley 26 = .ok (.aload_n 0, 1) := by decide +kernel
theorem dX5_addPulley_27 : decode cX5_addPulley 27 = .ok (.invokevirtual 98, 3) := by decide +kernel
theorem dX5_addPulley_30 : decode cX5_addPulley 30 = .ok (.i2l, 1) := by decide +kernel
theorem dX5_addPulley_31 : decode cX5_addPulley 31 = .ok (.ldc2_w 101, 3) := by decide +kernel
theorem dX5_addPulley_34 : decode cX5_addPulley 34 = .ok (.ldc2_w 103, 3) := by decide +kernel
theorem dX5_addPulley_37 : decode cX5_addPulley 37 = .ok (.aload_n 0, 1) := by decide +kernel
theorem dX5_addPulley_38 : decode cX5_addPulley 38 = .ok (.getfield 7, 3) := by decide +kernel
theorem dX5_addPulley_41 : decode cX5_addPulley 41 = .ok (.bipush 13, 2) := by decide +kernel
theorem dX5_addPulley_43 : decode cX5_addPulley 43 = .ok (.iload_n 1, 1) := by decide +kernel
theorem dX5_addPulley_44 : decode cX5_addPulley 44 = .ok (.iadd, 1) := by decide +kernel
theorem dX5_addPulley_45 : decode cX5_addPulley 45 = .ok (.laload, 1) := by decide +kernel
theorem dX5_addPulley_46 : decode cX5_addPulley 46 = .ok (.lsub, 1) := by decide +kernel
theorem dX5_addPulley_47 : decode cX5_addPulley 47 = .ok (.lmul, 1) := by decide +kernel
theorem dX5_addPulley_48 : decode cX5_addPulley 48 = .ok (.lcmp, 1) := by decide +kernel
theorem dX5_addPulley_49 : decode cX5_addPulley 49 = .ok (.ifCond .ge 9, 3) := by decide +kernel
theorem dX5_addPulley_52 : decode cX5_addPulley 52 = .ok (.aload_n 0, 1) := by decide +kernel
theorem dX5_addPulley_53 : decode cX5_addPulley 53 = .ok (.iconst 2, 1) := by decide +kernel
theorem dX5_addPulley_54 : decode cX5_addPulley 54 = .ok (.invokevirtual 85, 3) := by decide +kernel
theorem dX5_addPulley_57 : decode cX5_addPulley 57 = .ok (.ireturn, 1) := by decide +kernel
theorem dX5_addPulley_58 : decode cX5_addPulley 58 = .ok (.aload_n 0, 1) := by decide +kernel
theorem dX5_addPulley_59 : decode cX5_addPulley 59 = .ok (.invokevirtual 75, 3) := by decide +kernel
theorem dX5_addPulley_62 : decode cX5_addPulley 62 = .ok (.aload_n 0, 1) := by decide +kernel
theorem dX5_addPulley_63 : decode cX5_addPulley 63 = .ok (.getfield 7, 3) := by decide +kernel
theorem dX5_addPulley_66 : decode cX5_addPulley 66 = .ok (.bipush 17, 2) := by decide +kernel
theorem dX5_addPulley_68 : decode cX5_addPulley 68 = .ok (.aload_n 0, 1) := by decide +kernel
theorem dX5_addPulley_69 : decode cX5_addPulley 69 = .ok (.getfield 7, 3) := by decide +kernel
theorem dX5_addPulley_72 : decode cX5_addPulley 72 = .ok (.iconst 2, 1) := by decide +kernel
theorem dX5_addPulley_73 : decode cX5_addPulley 73 = .ok (.laload, 1) := by decide +kernel
theorem dX5_addPulley_74 : decode cX5_addPulley 74 = .ok (.l2i, 1) := by decide +kernel
theorem dX5_addPulley_75 : decode cX5_addPulley 75 = .ok (.iadd, 1) := by decide +kernel
theorem dX5_addPulley_76 : decode cX5_addPulley 76 = .ok (.iload_n 1, 1) := by decide +kernel
theorem dX5_addPulley_77 : decode cX5_addPulley 77 = .ok (.i2l, 1) := by decide +kernel
theorem dX5_addPulley_78 : decode cX5_addPulley 78 = .ok (.lastore, 1) := by decide +kernel
theorem dX5_addPulley_79 : decode cX5_addPulley 79 = .ok (.aload_n 0, 1) := by decide +kernel
theorem dX5_addPulley_80 : decode cX5_addPulley 80 = .ok (.getfield 7, 3) := by decide +kernel
theorem dX5_addPulley_83 : decode cX5_addPulley 83 = .ok (.iconst 2, 1) := by decide +kernel
theorem dX5_addPulley_84 : decode cX5_addPulley 84 = .ok (.dup2, 1) := by decide +kernel
theorem dX5_addPulley_85 : decode cX5_addPulley 85 = .ok (.laload, 1) := by decide +kernel
theorem dX5_addPulley_86 : decode cX5_addPulley 86 = .ok (.lconst 1, 1) := by decide +kernel
theorem dX5_addPulley_87 : decode cX5_addPulley 87 = .ok (.ladd, 1) := by decide +kernel
theorem dX5_addPulley_88 : decode cX5_addPulley 88 = .ok (.lastore, 1) := by decide +kernel
theorem dX5_addPulley_89 : decode cX5_addPulley 89 = .ok (.aload_n 0, 1) := by decide +kernel
theorem dX5_addPulley_90 : decode cX5_addPulley 90 = .ok (.aload_n 0, 1) := by decide +kernel
theorem dX5_addPulley_91 : decode cX5_addPulley 91 = .ok (.getfield 7, 3) := by decide +kernel
theorem dX5_addPulley_94 : decode cX5_addPulley 94 = .ok (.iconst 2, 1) := by decide +kernel
theorem dX5_addPulley_95 : decode cX5_addPulley 95 = .ok (.laload, 1) := by decide +kernel
theorem dX5_addPulley_96 : decode cX5_addPulley 96 = .ok (.l2i, 1) := by decide +kernel
theorem dX5_addPulley_97 : decode cX5_addPulley 97 = .ok (.invokevirtual 78, 3) := by decide +kernel
theorem dX5_addPulley_100 : decode cX5_addPulley 100 = .ok (.ireturn, 1) := by decide +kernel
theorem dX5_takePulley_0 : decode cX5_takePulley 0 = .ok (.aload_n 0, 1) := by decide +kernel
theorem dX5_takePulley_1 : decode cX5_takePulley 1 = .ok (.getfield 7, 3) := by decide +kernel
theorem dX5_takePulley_4 : decode cX5_takePulley 4 = .ok (.iconst 2, 1) := by decide +kernel
theorem dX5_takePulley_5 : decode cX5_takePulley 5 = .ok (.laload, 1) := by decide +kernel
theorem dX5_takePulley_6 : decode cX5_takePulley 6 = .ok (.lconst 0, 1) := by decide +kernel
theorem dX5_takePulley_7 : decode cX5_takePulley 7 = .ok (.lcmp, 1) := by decide +kernel
theorem dX5_takePulley_8 : decode cX5_takePulley 8 = .ok (.ifCond .ne 9, 3) := by decide +kernel
theorem dX5_takePulley_11 : decode cX5_takePulley 11 = .ok (.aload_n 0, 1) := by decide +kernel
theorem dX5_takePulley_12 : decode cX5_takePulley 12 = .ok (.iconst 1, 1) := by decide +kernel
theorem dX5_takePulley_13 : decode cX5_takePulley 13 = .ok (.invokevirtual 85, 3) := by decide +kernel
theorem dX5_takePulley_16 : decode cX5_takePulley 16 = .ok (.ireturn, 1) := by decide +kernel
theorem dX5_takePulley_17 : decode cX5_takePulley 17 = .ok (.aload_n 0, 1) := by decide +kernel
theorem dX5_takePulley_18 : decode cX5_takePulley 18 = .ok (.invokevirtual 75, 3) := by decide +kernel
theorem dX5_takePulley_21 : decode cX5_takePulley 21 = .ok (.aload_n 0, 1) := by decide +kernel
theorem dX5_takePulley_22 : decode cX5_takePulley 22 = .ok (.getfield 7, 3) := by decide +kernel
theorem dX5_takePulley_25 : decode cX5_takePulley 25 = .ok (.iconst 2, 1) := by decide +kernel
theorem dX5_takePulley_26 : decode cX5_takePulley 26 = .ok (.dup2, 1) := by decide +kernel
theorem dX5_takePulley_27 : decode cX5_takePulley 27 = .ok (.laload, 1) := by decide +kernel
theorem dX5_takePulley_28 : decode cX5_takePulley 28 = .ok (.lconst 1, 1) := by decide +kernel
theorem dX5_takePulley_29 : decode cX5_takePulley 29 = .ok (.lsub, 1) := by decide +kernel
theorem dX5_takePulley_30 : decode cX5_takePulley 30 = .ok (.lastore, 1) := by decide +kernel
theorem dX5_takePulley_31 : decode cX5_takePulley 31 = .ok (.aload_n 0, 1) := by decide +kernel
theorem dX5_takePulley_32 : decode cX5_takePulley 32 = .ok (.aload_n 0, 1) := by decide +kernel
theorem dX5_takePulley_33 : decode cX5_takePulley 33 = .ok (.getfield 7, 3) := by decide +kernel
theorem dX5_takePulley_36 : decode cX5_takePulley 36 = .ok (.bipush 17, 2) := by decide +kernel
theorem dX5_takePulley_38 : decode cX5_takePulley 38 = .ok (.aload_n 0, 1) := by decide +kernel
theorem dX5_takePulley_39 : decode cX5_takePulley 39 = .ok (.getfield 7, 3) := by decide +kernel
theorem dX5_takePulley_42 : decode cX5_takePulley 42 = .ok (.iconst 2, 1) := by decide +kernel
theorem dX5_takePulley_43 : decode cX5_takePulley 43 = .ok (.laload, 1) := by decide +kernel
theorem dX5_takePulley_44 : decode cX5_takePulley 44 = .ok (.l2i, 1) := by decide +kernel
theorem dX5_takePulley_45 : decode cX5_takePulley 45 = .ok (.iadd, 1) := by decide +kernel
theorem dX5_takePulley_46 : decode cX5_takePulley 46 = .ok (.laload, 1) := by decide +kernel
theorem dX5_takePulley_47 : decode cX5_takePulley 47 = .ok (.l2i, 1) := by decide +kernel
theorem dX5_takePulley_48 : decode cX5_takePulley 48 = .ok (.invokevirtual 78, 3) := by decide +kernel
theorem dX5_takePulley_51 : decode cX5_takePulley 51 = .ok (.ireturn, 1) := by decide +kernel
theorem dX5_endStrand_0 : decode cX5_endStrand 0 = .ok (.iload_n 1, 1) := by decide +kernel
theorem dX5_endStrand_1 : decode cX5_endStrand 1 = .ok (.iconst 4, 1) := by decide +kernel
theorem dX5_endStrand_2 : decode cX5_endStrand 2 = .ok (.if_icmp .ne 7, 3) := by decide +kernel
theorem dX5_endStrand_5 : decode cX5_endStrand 5 = .ok (.iconst 0, 1) := by decide +kernel
theorem dX5_endStrand_6 : decode cX5_endStrand 6 = .ok (.goto 17, 3) := by decide +kernel
theorem dX5_endStrand_9 : decode cX5_endStrand 9 = .ok (.sipush 10000, 3) := by decide +kernel
theorem dX5_endStrand_12 : decode cX5_endStrand 12 = .ok (.aload_n 0, 1) := by decide +kernel
theorem dX5_endStrand_13 : decode cX5_endStrand 13 = .ok (.getfield 7, 3) := by decide +kernel
theorem dX5_endStrand_16 : decode cX5_endStrand 16 = .ok (.bipush 13, 2) := by decide +kernel
theorem dX5_endStrand_18 : decode cX5_endStrand 18 = .ok (.iload_n 1, 1) := by decide +kernel
theorem dX5_endStrand_19 : decode cX5_endStrand 19 = .ok (.iadd, 1) := by decide +kernel
theorem dX5_endStrand_20 : decode cX5_endStrand 20 = .ok (.laload, 1) := by decide +kernel
theorem dX5_endStrand_21 : decode cX5_endStrand 21 = .ok (.l2i, 1) := by decide +kernel
theorem dX5_endStrand_22 : decode cX5_endStrand 22 = .ok (.isub, 1) := by decide +kernel
theorem dX5_endStrand_23 : decode cX5_endStrand 23 = .ok (.ireturn, 1) := by decide +kernel
theorem dX5_setEnd_0 : decode cX5_setEnd 0 = .ok (.iload_n 1, 1) := by decide +kernel
theorem dX5_setEnd_1 : decode cX5_setEnd 1 = .ok (.i2l, 1) := by decide +kernel
theorem dX5_setEnd_2 : decode cX5_setEnd 2 = .ok (.lconst 0, 1) := by decide +kernel
theorem dX5_setEnd_3 : decode cX5_setEnd 3 = .ok (.ldc2_w 33, 3) := by decide +kernel
theorem dX5_setEnd_6 : decode cX5_setEnd 6 = .ok (.invokestatic 43, 3) := by decide +kernel
theorem dX5_setEnd_9 : decode cX5_setEnd 9 = .ok (.ifCond .ne 9, 3) := by decide +kernel
theorem dX5_setEnd_12 : decode cX5_setEnd 12 = .ok (.aload_n 0, 1) := by decide +kernel
theorem dX5_setEnd_13 : decode cX5_setEnd 13 = .ok (.iconst 1, 1) := by decide +kernel
theorem dX5_setEnd_14 : decode cX5_setEnd 14 = .ok (.invokevirtual 85, 3) := by decide +kernel
theorem dX5_setEnd_17 : decode cX5_setEnd 17 = .ok (.ireturn, 1) := by decide +kernel
theorem dX5_setEnd_18 : decode cX5_setEnd 18 = .ok (.aload_n 0, 1) := by decide +kernel
theorem dX5_setEnd_19 : decode cX5_setEnd 19 = .ok (.invokevirtual 98, 3) := by decide +kernel
theorem dX5_setEnd_22 : decode cX5_setEnd 22 = .ok (.aload_n 0, 1) := by decide +kernel
theorem dX5_setEnd_23 : decode cX5_setEnd 23 = .ok (.aload_n 0, 1) := by decide +kernel
theorem dX5_setEnd_24 : decode cX5_setEnd 24 = .ok (.getfield 7, 3) := by decide +kernel
theorem dX5_setEnd_27 : decode cX5_setEnd 27 = .ok (.iconst 3, 1) := by decide +kernel
theorem dX5_setEnd_28 : decode cX5_setEnd 28 = .ok (.laload, 1) := by decide +kernel
theorem dX5_setEnd_29 : decode cX5_setEnd 29 = .ok (.l2i, 1) := by decide +kernel
theorem dX5_setEnd_30 : decode cX5_setEnd 30 = .ok (.invokevirtual 105, 3) := by decide +kernel
theorem dX5_setEnd_33 : decode cX5_setEnd 33 = .ok (.iadd, 1) := by decide +kernel
theorem dX5_setEnd_34 : decode cX5_setEnd 34 = .ok (.aload_n 0, 1) := by decide +kernel
theorem dX5_setEnd_35 : decode cX5_setEnd 35 = .ok (.iload_n 1, 1) := by decide +kernel
theorem dX5_setEnd_36 : decode cX5_setEnd 36 = .ok (.invokevirtual 105, 3) := by decide +kernel
theorem dX5_setEnd_39 : decode cX5_setEnd 39 = .ok (.if_icmp .ge 9, 3) := by decide +kernel
theorem dX5_setEnd_42 : decode cX5_setEnd 42 = .ok (.aload_n 0, 1) := by decide +kernel
theorem dX5_setEnd_43 : decode cX5_setEnd 43 = .ok (.iconst 2, 1) := by decide +kernel
theorem dX5_setEnd_44 : decode cX5_setEnd 44 = .ok (.invokevirtual 85, 3) := by decide +kernel
theorem dX5_setEnd_47 : decode cX5_setEnd 47 = .ok (.ireturn, 1) := by decide +kernel
theorem dX5_setEnd_48 : decode cX5_setEnd 48 = .ok (.aload_n 0, 1) := by decide +kernel
theorem dX5_setEnd_49 : decode cX5_setEnd 49 = .ok (.iconst 3, 1) := by decide +kernel
theorem dX5_setEnd_50 : decode cX5_setEnd 50 = .ok (.iload_n 1, 1) := by decide +kernel
theorem dX5_setEnd_51 : decode cX5_setEnd 51 = .ok (.invokevirtual 90, 3) := by decide +kernel
theorem dX5_setEnd_54 : decode cX5_setEnd 54 = .ok (.ireturn, 1) := by decide +kernel
theorem dX5_enters_0 : decode cX5_enters 0 = .ok (.bipush 47, 2) := by decide +kernel
theorem dX5_enters_2 : decode cX5_enters 2 = .ok (.istore 4, 2) := by decide +kernel
theorem dX5_enters_4 : decode cX5_enters 4 = .ok (.iload 4, 2) := by decide +kernel
theorem dX5_enters_6 : decode cX5_enters 6 = .ok (.iconst 2, 1) := by decide +kernel
theorem dX5_enters_7 : decode cX5_enters 7 = .ok (.if_icmp .le 31, 3) := by decide +kernel
theorem dX5_enters_10 : decode cX5_enters 10 = .ok (.aload_n 0, 1) := by decide +kernel
theorem dX5_enters_11 : decode cX5_enters 11 = .ok (.getfield 7, 3) := by decide +kernel
theorem dX5_enters_14 : decode cX5_enters 14 = .ok (.bipush 27, 2) := by decide +kernel
theorem dX5_enters_16 : decode cX5_enters 16 = .ok (.iload 4, 2) := by decide +kernel
theorem dX5_enters_18 : decode cX5_enters 18 = .ok (.iadd, 1) := by decide +kernel
theorem dX5_enters_19 : decode cX5_enters 19 = .ok (.aload_n 0, 1) := by decide +kernel
theorem dX5_enters_20 : decode cX5_enters 20 = .ok (.getfield 7, 3) := by decide +kernel
theorem dX5_enters_23 : decode cX5_enters 23 = .ok (.bipush 27, 2) := by decide +kernel
theorem dX5_enters_25 : decode cX5_enters 25 = .ok (.iload 4, 2) := by decide +kernel
theorem dX5_enters_27 : decode cX5_enters 27 = .ok (.iadd, 1) := by decide +kernel
theorem dX5_enters_28 : decode cX5_enters 28 = .ok (.iconst 3, 1) := by decide +kernel
theorem dX5_enters_29 : decode cX5_enters 29 = .ok (.isub, 1) := by decide +kernel
theorem dX5_enters_30 : decode cX5_enters 30 = .ok (.laload, 1) := by decide +kernel
theorem dX5_enters_31 : decode cX5_enters 31 = .ok (.lastore, 1) := by decide +kernel
theorem dX5_enters_32 : decode cX5_enters 32 = .ok (.iinc 4 (-1), 3) := by decide +kernel
theorem dX5_enters_35 : decode cX5_enters 35 = .ok (.goto (-31), 3) := by decide +kernel
theorem dX5_enters_38 : decode cX5_enters 38 = .ok (.aload_n 0, 1) := by decide +kernel
theorem dX5_enters_39 : decode cX5_enters 39 = .ok (.getfield 7, 3) := by decide +kernel
theorem dX5_enters_42 : decode cX5_enters 42 = .ok (.bipush 27, 2) := by decide +kernel
theorem dX5_enters_44 : decode cX5_enters 44 = .ok (.iload_n 1, 1) := by decide +kernel
theorem dX5_enters_45 : decode cX5_enters 45 = .ok (.i2l, 1) := by decide +kernel
theorem dX5_enters_46 : decode cX5_enters 46 = .ok (.lastore, 1) := by decide +kernel
theorem dX5_enters_47 : decode cX5_enters 47 = .ok (.aload_n 0, 1) := by decide +kernel
theorem dX5_enters_48 : decode cX5_enters 48 = .ok (.getfield 7, 3) := by decide +kernel
theorem dX5_enters_51 : decode cX5_enters 51 = .ok (.bipush 28, 2) := by decide +kernel
theorem dX5_enters_53 : decode cX5_enters 53 = .ok (.iload_n 2, 1) := by decide +kernel
theorem dX5_enters_54 : decode cX5_enters 54 = .ok (.i2l, 1) := by decide +kernel
theorem dX5_enters_55 : decode cX5_enters 55 = .ok (.lastore, 1) := by decide +kernel
theorem dX5_enters_56 : decode cX5_enters 56 = .ok (.aload_n 0, 1) := by decide +kernel
theorem dX5_enters_57 : decode cX5_enters 57 = .ok (.getfield 7, 3) := by decide +kernel
theorem dX5_enters_60 : decode cX5_enters 60 = .ok (.bipush 29, 2) := by decide +kernel
theorem dX5_enters_62 : decode cX5_enters 62 = .ok (.iload_n 3, 1) := by decide +kernel
theorem dX5_enters_63 : decode cX5_enters 63 = .ok (.i2l, 1) := by decide +kernel
theorem dX5_enters_64 : decode cX5_enters 64 = .ok (.lastore, 1) := by decide +kernel
theorem dX5_enters_65 : decode cX5_enters 65 = .ok (.aload_n 0, 1) := by decide +kernel
theorem dX5_enters_66 : decode cX5_enters 66 = .ok (.getfield 7, 3) := by decide +kernel
theorem dX5_enters_69 : decode cX5_enters 69 = .ok (.bipush 6, 2) := by decide +kernel
theorem dX5_enters_71 : decode cX5_enters 71 = .ok (.dup2, 1) := by decide +kernel
theorem dX5_enters_72 : decode cX5_enters 72 = .ok (.laload, 1) := by decide +kernel
theorem dX5_enters_73 : decode cX5_enters 73 = .ok (.aload_n 0, 1) := by decide +kernel
theorem dX5_enters_74 : decode cX5_enters 74 = .ok (.getfield 7, 3) := by decide +kernel
theorem dX5_enters_77 : decode cX5_enters 77 = .ok (.bipush 6, 2) := by decide +kernel
theorem dX5_enters_79 : decode cX5_enters 79 = .ok (.laload, 1) := by decide +kernel
theorem dX5_enters_80 : decode cX5_enters 80 = .ok (.ldc2_w 108, 3) := by decide +kernel
theorem dX5_enters_83 : decode cX5_enters 83 = .ok (.lcmp, 1) := by decide +kernel
theorem dX5_enters_84 : decode cX5_enters 84 = .ok (.ifCond .ge 7, 3) := by decide +kernel
theorem dX5_enters_87 : decode cX5_enters 87 = .ok (.lconst 1, 1) := by decide +kernel
theorem dX5_enters_88 : decode cX5_enters 88 = .ok (.goto 4, 3) := by decide +kernel
theorem dX5_enters_91 : decode cX5_enters 91 = .ok (.lconst 0, 1) := by decide +kernel
theorem dX5_enters_92 : decode cX5_enters 92 = .ok (.ladd, 1) := by decide +kernel
theorem dX5_enters_93 : decode cX5_enters 93 = .ok (.lastore, 1) := by decide +kernel
theorem dX5_enters_94 : decode cX5_enters 94 = .ok (.aload_n 0, 1) := by decide +kernel
theorem dX5_enters_95 : decode cX5_enters 95 = .ok (.getfield 7, 3) := by decide +kernel
theorem dX5_enters_98 : decode cX5_enters 98 = .ok (.iload_n 2, 1) := by decide +kernel
theorem dX5_enters_99 : decode cX5_enters 99 = .ok (.ifCond .le 7, 3) := by decide +kernel
theorem dX5_enters_102 : decode cX5_enters 102 = .ok (.iconst 4, 1) := by decide +kernel
theorem dX5_enters_103 : decode cX5_enters 103 = .ok (.goto 4, 3) := by decide +kernel
theorem dX5_enters_106 : decode cX5_enters 106 = .ok (.iconst 5, 1) := by decide +kernel
theorem dX5_enters_107 : decode cX5_enters 107 = .ok (.dup2, 1) := by decide +kernel
theorem dX5_enters_108 : decode cX5_enters 108 = .ok (.laload, 1) := by decide +kernel
theorem dX5_enters_109 : decode cX5_enters 109 = .ok (.lconst 1, 1) := by decide +kernel
theorem dX5_enters_110 : decode cX5_enters 110 = .ok (.ladd, 1) := by decide +kernel
theorem dX5_enters_111 : decode cX5_enters 111 = .ok (.lastore, 1) := by decide +kernel
theorem dX5_enters_112 : decode cX5_enters 112 = .ok (.return_, 1) := by decide +kernel
theorem dX5_riser_0 : decode cX5_riser 0 = .ok (.iconst (-1), 1) := by decide +kernel
theorem dX5_riser_1 : decode cX5_riser 1 = .ok (.istore_n 2, 1) := by decide +kernel
theorem dX5_riser_2 : decode cX5_riser 2 = .ok (.iconst 0, 1) := by decide +kernel
theorem dX5_riser_3 : decode cX5_riser 3 = .ok (.istore_n 3, 1) := by decide +kernel
theorem dX5_riser_4 : decode cX5_riser 4 = .ok (.iconst 0, 1) := by decide +kernel
theorem dX5_riser_5 : decode cX5_riser 5 = .ok (.istore 4, 2) := by decide +kernel
theorem dX5_riser_7 : decode cX5_riser 7 = .ok (.iload 4, 2) := by decide +kernel
theorem dX5_riser_9 : decode cX5_riser 9 = .ok (.iconst 4, 1) := by decide +kernel
theorem dX5_riser_10 : decode cX5_riser 10 = .ok (.if_icmp .ge 93, 3) := by decide +kernel
theorem dX5_riser_13 : decode cX5_riser 13 = .ok (.aload_n 0, 1) := by decide +kernel
theorem dX5_riser_14 : decode cX5_riser 14 = .ok (.getfield 7, 3) := by decide +kernel
theorem dX5_riser_17 : decode cX5_riser 17 = .ok (.bipush 13, 2) := by decide +kernel
theorem dX5_riser_19 : decode cX5_riser 19 = .ok (.iload 4, 2) := by decide +kernel
theorem dX5_riser_21 : decode cX5_riser 21 = .ok (.iadd, 1) := by decide +kernel
theorem dX5_riser_22 : decode cX5_riser 22 = .ok (.laload, 1) := by decide +kernel
theorem dX5_riser_23 : decode cX5_riser 23 = .ok (.ldc2_w 110, 3) := by decide +kernel
theorem dX5_riser_26 : decode cX5_riser 26 = .ok (.lcmp, 1) := by decide +kernel
theorem dX5_riser_27 : decode cX5_riser 27 = .ok (.ifCond .ge 13, 3) := by decide +kernel
theorem dX5_riser_30 : decode cX5_riser 30 = .ok (.aload_n 0, 1) := by decide +kernel
theorem dX5_riser_31 : decode cX5_riser 31 = .ok (.iload 4, 2) := by decide +kernel
theorem dX5_riser_33 : decode cX5_riser 33 = .ok (.iconst 1, 1) := by decide +kernel
theorem dX5_riser_34 : decode cX5_riser 34 = .ok (.invokevirtual 112, 3) := by decide +kernel
theorem dX5_riser_37 : decode cX5_riser 37 = .ok (.goto 4, 3) := by decide +kernel
theorem dX5_riser_40 : decode cX5_riser 40 = .ok (.iconst (-1), 1) := by decide +kernel
theorem dX5_riser_41 : decode cX5_riser 41 = .ok (.istore 5, 2) := by decide +kernel
theorem dX5_riser_43 : decode cX5_riser 43 = .ok (.iload 5, 2) := by decide +kernel
theorem dX5_riser_45 : decode cX5_riser 45 = .ok (.iconst (-1), 1) := by decide +kernel
theorem dX5_riser_46 : decode cX5_riser 46 = .ok (.if_icmp .eq 24, 3) := by decide +kernel
theorem dX5_riser_49 : decode cX5_riser 49 = .ok (.iload 5, 2) := by decide +kernel
theorem dX5_riser_51 : decode cX5_riser 51 = .ok (.iload_n 1, 1) := by decide +kernel
theorem dX5_riser_52 : decode cX5_riser 52 = .ok (.if_icmp .gt 18, 3) := by decide +kernel
theorem dX5_riser_55 : decode cX5_riser 55 = .ok (.iload_n 2, 1) := by decide +kernel
theorem dX5_riser_56 : decode cX5_riser 56 = .ok (.iconst (-1), 1) := by decide +kernel
theorem dX5_riser_57 : decode cX5_riser 57 = .ok (.if_icmp .eq 9, 3) := by decide +kernel
theorem dX5_riser_60 : decode cX5_riser 60 = .ok (.iload 5, 2) := by decide +kernel
theorem dX5_riser_62 : decode cX5_riser 62 = .ok (.iload_n 3, 1) := by decide +kernel
theorem dX5_riser_63 : decode cX5_riser 63 = .ok (.if_icmp .ge 7, 3) := by decide +kernel
theorem dX5_riser_66 : decode cX5_riser 66 = .ok (.iconst 1, 1) := by decide +kernel
theorem dX5_riser_67 : decode cX5_riser 67 = .ok (.goto 4, 3) := by decide +kernel
theorem dX5_riser_70 : decode cX5_riser 70 = .ok (.iconst 0, 1) := by decide +kernel
theorem dX5_riser_71 : decode cX5_riser 71 = .ok (.istore 6, 2) := by decide +kernel
theorem dX5_riser_73 : decode cX5_riser 73 = .ok (.iload 6, 2) := by decide +kernel
theorem dX5_riser_75 : decode cX5_riser 75 = .ok (.ifCond .eq 8, 3) := by decide +kernel
theorem dX5_riser_78 : decode cX5_riser 78 = .ok (.iload 5, 2) := by decide +kernel
theorem dX5_riser_80 : decode cX5_riser 80 = .ok (.goto 4, 3) := by decide +kernel
theorem dX5_riser_83 : decode cX5_riser 83 = .ok (.iload_n 3, 1) := by decide +kernel
theorem dX5_riser_84 : decode cX5_riser 84 = .ok (.istore_n 3, 1) := by decide +kernel
theorem dX5_riser_85 : decode cX5_riser 85 = .ok (.iload 6, 2) := by decide +kernel
theorem dX5_riser_87 : decode cX5_riser 87 = .ok (.ifCond .eq 8, 3) := by decide +kernel
theorem dX5_riser_90 : decode cX5_riser 90 = .ok (.iload 4, 2) := by decide +kernel
theorem dX5_riser_92 : decode cX5_riser 92 = .ok (.goto 4, 3) := by decide +kernel
theorem dX5_riser_95 : decode cX5_riser 95 = .ok (.iload_n 2, 1) := by decide +kernel
theorem dX5_riser_96 : decode cX5_riser 96 = .ok (.istore_n 2, 1) := by decide +kernel
theorem dX5_riser_97 : decode cX5_riser 97 = .ok (.iinc 4 1, 3) := by decide +kernel
theorem dX5_riser_100 : decode cX5_riser 100 = .ok (.goto (-93), 3) := by decide +kernel
theorem dX5_riser_103 : decode cX5_riser 103 = .ok (.iload_n 2, 1) := by decide +kernel
theorem dX5_riser_104 : decode cX5_riser 104 = .ok (.ireturn, 1) := by decide +kernel
theorem dX5_sinker_0 : decode cX5_sinker 0 = .ok (.iconst (-1), 1) := by decide +kernel
theorem dX5_sinker_1 : decode cX5_sinker 1 = .ok (.istore_n 2, 1) := by decide +kernel
theorem dX5_sinker_2 : decode cX5_sinker 2 = .ok (.iload_n 1, 1) := by decide +kernel
theorem dX5_sinker_3 : decode cX5_sinker 3 = .ok (.istore_n 3, 1) := by decide +kernel
theorem dX5_sinker_4 : decode cX5_sinker 4 = .ok (.iconst 0, 1) := by decide +kernel
theorem dX5_sinker_5 : decode cX5_sinker 5 = .ok (.istore 4, 2) := by decide +kernel
theorem dX5_sinker_7 : decode cX5_sinker 7 = .ok (.iload 4, 2) := by decide +kernel
theorem dX5_sinker_9 : decode cX5_sinker 9 = .ok (.iconst 4, 1) := by decide +kernel
theorem dX5_sinker_10 : decode cX5_sinker 10 = .ok (.if_icmp .ge 63, 3) := by decide +kernel
theorem dX5_sinker_13 : decode cX5_sinker 13 = .ok (.aload_n 0, 1) := by decide +kernel
theorem dX5_sinker_14 : decode cX5_sinker 14 = .ok (.getfield 7, 3) := by decide +kernel
theorem dX5_sinker_17 : decode cX5_sinker 17 = .ok (.bipush 13, 2) := by decide +kernel
theorem dX5_sinker_19 : decode cX5_sinker 19 = .ok (.iload 4, 2) := by decide +kernel
theorem dX5_sinker_21 : decode cX5_sinker 21 = .ok (.iadd, 1) := by decide +kernel
theorem dX5_sinker_22 : decode cX5_sinker 22 = .ok (.laload, 1) := by decide +kernel
theorem dX5_sinker_23 : decode cX5_sinker 23 = .ok (.lconst 0, 1) := by decide +kernel
theorem dX5_sinker_24 : decode cX5_sinker 24 = .ok (.lcmp, 1) := by decide +kernel
theorem dX5_sinker_25 : decode cX5_sinker 25 = .ok (.ifCond .le 13, 3) := by decide +kernel
theorem dX5_sinker_28 : decode cX5_sinker 28 = .ok (.aload_n 0, 1) := by decide +kernel
theorem dX5_sinker_29 : decode cX5_sinker 29 = .ok (.iload 4, 2) := by decide +kernel
theorem dX5_sinker_31 : decode cX5_sinker 31 = .ok (.iconst 0, 1) := by decide +kernel
theorem dX5_sinker_32 : decode cX5_sinker 32 = .ok (.invokevirtual 112, 3) := by decide +kernel
theorem dX5_sinker_35 : decode cX5_sinker 35 = .ok (.goto 4, 3) := by decide +kernel
theorem dX5_sinker_38 : decode cX5_sinker 38 = .ok (.iconst (-1), 1) := by decide +kernel
theorem dX5_sinker_39 : decode cX5_sinker 39 = .ok (.istore 5, 2) := by decide +kernel
theorem dX5_sinker_41 : decode cX5_sinker 41 = .ok (.iload 5, 2) := by decide +kernel
theorem dX5_sinker_43 : decode cX5_sinker 43 = .ok (.iload_n 3, 1) := by decide +kernel
theorem dX5_sinker_44 : decode cX5_sinker 44 = .ok (.if_icmp .le 8, 3) := by decide +kernel
theorem dX5_sinker_47 : decode cX5_sinker 47 = .ok (.iload 4, 2) := by decide +kernel
theorem dX5_sinker_49 : decode cX5_sinker 49 = .ok (.goto 4, 3) := by decide +kernel
theorem dX5_sinker_52 : decode cX5_sinker 52 = .ok (.iload_n 2, 1) := by decide +kernel
theorem dX5_sinker_53 : decode cX5_sinker 53 = .ok (.istore_n 2, 1) := by decide +kernel
theorem dX5_sinker_54 : decode cX5_sinker 54 = .ok (.iload 5, 2) := by decide +kernel
theorem dX5_sinker_56 : decode cX5_sinker 56 = .ok (.iload_n 3, 1) := by decide +kernel
theorem dX5_sinker_57 : decode cX5_sinker 57 = .ok (.if_icmp .le 8, 3) := by decide +kernel
theorem dX5_sinker_60 : decode cX5_sinker 60 = .ok (.iload 5, 2) := by decide +kernel
theorem dX5_sinker_62 : decode cX5_sinker 62 = .ok (.goto 4, 3) := by decide +kernel
theorem dX5_sinker_65 : decode cX5_sinker 65 = .ok (.iload_n 3, 1) := by decide +kernel
theorem dX5_sinker_66 : decode cX5_sinker 66 = .ok (.istore_n 3, 1) := by decide +kernel
theorem dX5_sinker_67 : decode cX5_sinker 67 = .ok (.iinc 4 1, 3) := by decide +kernel
theorem dX5_sinker_70 : decode cX5_sinker 70 = .ok (.goto (-63), 3) := by decide +kernel
theorem dX5_sinker_73 : decode cX5_sinker 73 = .ok (.iload_n 2, 1) := by decide +kernel
theorem dX5_sinker_74 : decode cX5_sinker 74 = .ok (.ireturn, 1) := by decide +kernel
theorem dX5_lesser_0 : decode cX5_lesser 0 = .ok (.lload_n 0, 1) := by decide +kernel
theorem dX5_lesser_1 : decode cX5_lesser 1 = .ok (.lload_n 2, 1) := by decide +kernel
theorem dX5_lesser_2 : decode cX5_lesser 2 = .ok (.lcmp, 1) := by decide +kernel
theorem dX5_lesser_3 : decode cX5_lesser 3 = .ok (.ifCond .ge 7, 3) := by decide +kernel
theorem dX5_lesser_6 : decode cX5_lesser 6 = .ok (.lload_n 0, 1) := by decide +kernel
theorem dX5_lesser_7 : decode cX5_lesser 7 = .ok (.goto 4, 3) := by decide +kernel
theorem dX5_lesser_10 : decode cX5_lesser 10 = .ok (.lload_n 2, 1) := by decide +kernel
theorem dX5_lesser_11 : decode cX5_lesser 11 = .ok (.l2i, 1) := by decide +kernel
theorem dX5_lesser_12 : decode cX5_lesser 12 = .ok (.ireturn, 1) := by decide +kernel
theorem dX5_hauls_0 : decode cX5_hauls 0 = .ok (.iload_n 2, 1) := by decide +kernel
theorem dX5_hauls_1 : decode cX5_hauls 1 = .ok (.istore_n 3, 1) := by decide +kernel
theorem dX5_hauls_2 : decode cX5_hauls 2 = .ok (.aload_n 0, 1) := by decide +kernel
theorem dX5_hauls_3 : decode cX5_hauls 3 = .ok (.iload_n 1, 1) := by decide +kernel
theorem dX5_hauls_4 : decode cX5_hauls 4 = .ok (.invokevirtual 116, 3) := by decide +kernel
theorem dX5_hauls_7 : decode cX5_hauls 7 = .ok (.istore 4, 2) := by decide +kernel
theorem dX5_hauls_9 : decode cX5_hauls 9 = .ok (.iload 4, 2) := by decide +kernel
theorem dX5_hauls_11 : decode cX5_hauls 11 = .ok (.iconst (-1), 1) := by decide +kernel
theorem dX5_hauls_12 : decode cX5_hauls 12 = .ok (.if_icmp .ne 7, 3) := by decide +kernel
theorem dX5_hauls_15 : decode cX5_hauls 15 = .ok (.iconst 0, 1) := by decide +kernel
theorem dX5_hauls_16 : decode cX5_hauls 16 = .ok (.goto 29, 3) := by decide +kernel
theorem dX5_hauls_19 : decode cX5_hauls 19 = .ok (.iload_n 3, 1) := by decide +kernel
theorem dX5_hauls_20 : decode cX5_hauls 20 = .ok (.aload_n 0, 1) := by decide +kernel
theorem dX5_hauls_21 : decode cX5_hauls 21 = .ok (.iload 4, 2) := by decide +kernel
theorem dX5_hauls_23 : decode cX5_hauls 23 = .ok (.invokevirtual 56, 3) := by decide +kernel
theorem dX5_hauls_26 : decode cX5_hauls 26 = .ok (.idiv, 1) := by decide +kernel
theorem dX5_hauls_27 : decode cX5_hauls 27 = .ok (.i2l, 1) := by decide +kernel
theorem dX5_hauls_28 : decode cX5_hauls 28 = .ok (.ldc2_w 110, 3) := by decide +kernel
theorem dX5_hauls_31 : decode cX5_hauls 31 = .ok (.aload_n 0, 1) := by decide +kernel
theorem dX5_hauls_32 : decode cX5_hauls 32 = .ok (.getfield 7, 3) := by decide +kernel
theorem dX5_hauls_35 : decode cX5_hauls 35 = .ok (.bipush 13, 2) := by decide +kernel
theorem dX5_hauls_37 : decode cX5_hauls 37 = .ok (.iload 4, 2) := by decide +kernel
theorem dX5_hauls_39 : decode cX5_hauls 39 = .ok (.iadd, 1) := by decide +kernel
theorem dX5_hauls_40 : decode cX5_hauls 40 = .ok (.laload, 1) := by decide +kernel
theorem dX5_hauls_41 : decode cX5_hauls 41 = .ok (.lsub, 1) := by decide +kernel
theorem dX5_hauls_42 : decode cX5_hauls 42 = .ok (.invokestatic 119, 3) := by decide +kernel
theorem dX5_hauls_45 : decode cX5_hauls 45 = .ok (.istore 5, 2) := by decide +kernel
theorem dX5_hauls_47 : decode cX5_hauls 47 = .ok (.iload 5, 2) := by decide +kernel
theorem dX5_hauls_49 : decode cX5_hauls 49 = .ok (.ifCond .le 120, 3) := by decide +kernel
theorem dX5_hauls_52 : decode cX5_hauls 52 = .ok (.aload_n 0, 1) := by decide +kernel
theorem dX5_hauls_53 : decode cX5_hauls 53 = .ok (.getfield 7, 3) := by decide +kernel
theorem dX5_hauls_56 : decode cX5_hauls 56 = .ok (.bipush 13, 2) := by decide +kernel
theorem dX5_hauls_58 : decode cX5_hauls 58 = .ok (.iload 4, 2) := by decide +kernel
theorem dX5_hauls_60 : decode cX5_hauls 60 = .ok (.iadd, 1) := by decide +kernel
theorem dX5_hauls_61 : decode cX5_hauls 61 = .ok (.dup2, 1) := by decide +kernel
theorem dX5_hauls_62 : decode cX5_hauls 62 = .ok (.laload, 1) := by decide +kernel
theorem dX5_hauls_63 : decode cX5_hauls 63 = .ok (.iload 5, 2) := by decide +kernel
theorem dX5_hauls_65 : decode cX5_hauls 65 = .ok (.i2l, 1) := by decide +kernel
theorem dX5_hauls_66 : decode cX5_hauls 66 = .ok (.ladd, 1) := by decide +kernel
theorem dX5_hauls_67 : decode cX5_hauls 67 = .ok (.lastore, 1) := by decide +kernel
theorem dX5_hauls_68 : decode cX5_hauls 68 = .ok (.aload_n 0, 1) := by decide +kernel
theorem dX5_hauls_69 : decode cX5_hauls 69 = .ok (.getfield 7, 3) := by decide +kernel
theorem dX5_hauls_72 : decode cX5_hauls 72 = .ok (.bipush 8, 2) := by decide +kernel
theorem dX5_hauls_74 : decode cX5_hauls 74 = .ok (.dup2, 1) := by decide +kernel
theorem dX5_hauls_75 : decode cX5_hauls 75 = .ok (.laload, 1) := by decide +kernel
theorem dX5_hauls_76 : decode cX5_hauls 76 = .ok (.aload_n 0, 1) := by decide +kernel
theorem dX5_hauls_77 : decode cX5_hauls 77 = .ok (.getfield 7, 3) := by decide +kernel
theorem dX5_hauls_80 : decode cX5_hauls 80 = .ok (.bipush 9, 2) := by decide +kernel
theorem dX5_hauls_82 : decode cX5_hauls 82 = .ok (.iload 4, 2) := by decide +kernel
theorem dX5_hauls_84 : decode cX5_hauls 84 = .ok (.iadd, 1) := by decide +kernel
theorem dX5_hauls_85 : decode cX5_hauls 85 = .ok (.laload, 1) := by decide +kernel
theorem dX5_hauls_86 : decode cX5_hauls 86 = .ok (.iload 5, 2) := by decide +kernel
theorem dX5_hauls_88 : decode cX5_hauls 88 = .ok (.i2l, 1) := by decide +kernel
theorem dX5_hauls_89 : decode cX5_hauls 89 = .ok (.lmul, 1) := by decide +kernel
theorem dX5_hauls_90 : decode cX5_hauls 90 = .ok (.ladd, 1) := by decide +kernel
theorem dX5_hauls_91 : decode cX5_hauls 91 = .ok (.lastore, 1) := by decide +kernel
theorem dX5_hauls_92 : decode cX5_hauls 92 = .ok (.iload_n 3, 1) := by decide +kernel
theorem dX5_hauls_93 : decode cX5_hauls 93 = .ok (.aload_n 0, 1) := by decide +kernel
theorem dX5_hauls_94 : decode cX5_hauls 94 = .ok (.iload 4, 2) := by decide +kernel
theorem dX5_hauls_96 : decode cX5_hauls 96 = .ok (.invokevirtual 56, 3) := by decide +kernel
theorem dX5_hauls_99 : decode cX5_hauls 99 = .ok (.iload 5, 2) := by decide +kernel
theorem dX5_hauls_101 : decode cX5_hauls 101 = .ok (.imul, 1) := by decide +kernel
theorem dX5_hauls_102 : decode cX5_hauls 102 = .ok (.isub, 1) := by decide +kernel
theorem dX5_hauls_103 : decode cX5_hauls 103 = .ok (.istore_n 3, 1) := by decide +kernel
theorem dX5_hauls_104 : decode cX5_hauls 104 = .ok (.aload_n 0, 1) := by decide +kernel
theorem dX5_hauls_105 : decode cX5_hauls 105 = .ok (.iload 4, 2) := by decide +kernel
theorem dX5_hauls_107 : decode cX5_hauls 107 = .ok (.iload 5, 2) := by decide +kernel
theorem dX5_hauls_109 : decode cX5_hauls 109 = .ok (.aload_n 0, 1) := by decide +kernel
theorem dX5_hauls_110 : decode cX5_hauls 110 = .ok (.iload 4, 2) := by decide +kernel
theorem dX5_hauls_112 : decode cX5_hauls 112 = .ok (.invokevirtual 56, 3) := by decide +kernel
theorem dX5_hauls_115 : decode cX5_hauls 115 = .ok (.iload 5, 2) := by decide +kernel
theorem dX5_hauls_117 : decode cX5_hauls 117 = .ok (.imul, 1) := by decide +kernel
theorem dX5_hauls_118 : decode cX5_hauls 118 = .ok (.invokevirtual 123, 3) := by decide +kernel
theorem dX5_hauls_121 : decode cX5_hauls 121 = .ok (.aload_n 0, 1) := by decide +kernel
theorem dX5_hauls_122 : decode cX5_hauls 122 = .ok (.iload_n 1, 1) := by decide +kernel
theorem dX5_hauls_123 : decode cX5_hauls 123 = .ok (.invokevirtual 116, 3) := by decide +kernel
theorem dX5_hauls_126 : decode cX5_hauls 126 = .ok (.istore 4, 2) := by decide +kernel
theorem dX5_hauls_128 : decode cX5_hauls 128 = .ok (.iload 4, 2) := by decide +kernel
theorem dX5_hauls_130 : decode cX5_hauls 130 = .ok (.iconst (-1), 1) := by decide +kernel
theorem dX5_hauls_131 : decode cX5_hauls 131 = .ok (.if_icmp .ne 7, 3) := by decide +kernel
theorem dX5_hauls_134 : decode cX5_hauls 134 = .ok (.iconst 0, 1) := by decide +kernel
theorem dX5_hauls_135 : decode cX5_hauls 135 = .ok (.goto 29, 3) := by decide +kernel
theorem dX5_hauls_138 : decode cX5_hauls 138 = .ok (.iload_n 3, 1) := by decide +kernel
theorem dX5_hauls_139 : decode cX5_hauls 139 = .ok (.aload_n 0, 1) := by decide +kernel
theorem dX5_hauls_140 : decode cX5_hauls 140 = .ok (.iload 4, 2) := by decide +kernel
theorem dX5_hauls_142 : decode cX5_hauls 142 = .ok (.invokevirtual 56, 3) := by decide +kernel
theorem dX5_hauls_145 : decode cX5_hauls 145 = .ok (.idiv, 1) := by decide +kernel
theorem dX5_hauls_146 : decode cX5_hauls 146 = .ok (.i2l, 1) := by decide +kernel
theorem dX5_hauls_147 : decode cX5_hauls 147 = .ok (.ldc2_w 110, 3) := by decide +kernel
theorem dX5_hauls_150 : decode cX5_hauls 150 = .ok (.aload_n 0, 1) := by decide +kernel
theorem dX5_hauls_151 : decode cX5_hauls 151 = .ok (.getfield 7, 3) := by decide +kernel
theorem dX5_hauls_154 : decode cX5_hauls 154 = .ok (.bipush 13, 2) := by decide +kernel
theorem dX5_hauls_156 : decode cX5_hauls 156 = .ok (.iload 4, 2) := by decide +kernel
theorem dX5_hauls_158 : decode cX5_hauls 158 = .ok (.iadd, 1) := by decide +kernel
theorem dX5_hauls_159 : decode cX5_hauls 159 = .ok (.laload, 1) := by decide +kernel
theorem dX5_hauls_160 : decode cX5_hauls 160 = .ok (.lsub, 1) := by decide +kernel
theorem dX5_hauls_161 : decode cX5_hauls 161 = .ok (.invokestatic 119, 3) := by decide +kernel
theorem dX5_hauls_164 : decode cX5_hauls 164 = .ok (.istore 5, 2) := by decide +kernel
theorem dX5_hauls_166 : decode cX5_hauls 166 = .ok (.goto (-119), 3) := by decide +kernel
theorem dX5_hauls_169 : decode cX5_hauls 169 = .ok (.aload_n 0, 1) := by decide +kernel
theorem dX5_hauls_170 : decode cX5_hauls 170 = .ok (.getfield 7, 3) := by decide +kernel
theorem dX5_hauls_173 : decode cX5_hauls 173 = .ok (.bipush 7, 2) := by decide +kernel
theorem dX5_hauls_175 : decode cX5_hauls 175 = .ok (.dup2, 1) := by decide +kernel
theorem dX5_hauls_176 : decode cX5_hauls 176 = .ok (.laload, 1) := by decide +kernel
theorem dX5_hauls_177 : decode cX5_hauls 177 = .ok (.iload_n 1, 1) := by decide +kernel
theorem dX5_hauls_178 : decode cX5_hauls 178 = .ok (.i2l, 1) := by decide +kernel
theorem dX5_hauls_179 : decode cX5_hauls 179 = .ok (.iload_n 2, 1) := by decide +kernel
theorem dX5_hauls_180 : decode cX5_hauls 180 = .ok (.iload_n 3, 1) := by decide +kernel
theorem dX5_hauls_181 : decode cX5_hauls 181 = .ok (.isub, 1) := by decide +kernel
theorem dX5_hauls_182 : decode cX5_hauls 182 = .ok (.i2l, 1) := by decide +kernel
theorem dX5_hauls_183 : decode cX5_hauls 183 = .ok (.lmul, 1) := by decide +kernel
theorem dX5_hauls_184 : decode cX5_hauls 184 = .ok (.ladd, 1) := by decide +kernel
theorem dX5_hauls_185 : decode cX5_hauls 185 = .ok (.lastore, 1) := by decide +kernel
theorem dX5_hauls_186 : decode cX5_hauls 186 = .ok (.iload_n 2, 1) := by decide +kernel
theorem dX5_hauls_187 : decode cX5_hauls 187 = .ok (.iload_n 3, 1) := by decide +kernel
theorem dX5_hauls_188 : decode cX5_hauls 188 = .ok (.isub, 1) := by decide +kernel
theorem dX5_hauls_189 : decode cX5_hauls 189 = .ok (.ireturn, 1) := by decide +kernel
theorem dX5_haul_0 : decode cX5_haul 0 = .ok (.iload_n 1, 1) := by decide +kernel
theorem dX5_haul_1 : decode cX5_haul 1 = .ok (.invokestatic 127, 3) := by decide +kernel
theorem dX5_haul_4 : decode cX5_haul 4 = .ok (.ifCond .eq 15, 3) := by decide +kernel
theorem dX5_haul_7 : decode cX5_haul 7 = .ok (.iload_n 2, 1) := by decide +kernel
theorem dX5_haul_8 : decode cX5_haul 8 = .ok (.i2l, 1) := by decide +kernel
theorem dX5_haul_9 : decode cX5_haul 9 = .ok (.lconst 0, 1) := by decide +kernel
theorem dX5_haul_10 : decode cX5_haul 10 = .ok (.ldc2_w 130, 3) := by decide +kernel
theorem dX5_haul_13 : decode cX5_haul 13 = .ok (.invokestatic 43, 3) := by decide +kernel
theorem dX5_haul_16 : decode cX5_haul 16 = .ok (.ifCond .ne 9, 3) := by decide +kernel
theorem dX5_haul_19 : decode cX5_haul 19 = .ok (.aload_n 0, 1) := by decide +kernel
theorem dX5_haul_20 : decode cX5_haul 20 = .ok (.iconst 1, 1) := by decide +kernel
theorem dX5_haul_21 : decode cX5_haul 21 = .ok (.invokevirtual 85, 3) := by decide +kernel
theorem dX5_haul_24 : decode cX5_haul 24 = .ok (.ireturn, 1) := by decide +kernel
theorem dX5_haul_25 : decode cX5_haul 25 = .ok (.aload_n 0, 1) := by decide +kernel
theorem dX5_haul_26 : decode cX5_haul 26 = .ok (.invokevirtual 75, 3) := by decide +kernel
theorem dX5_haul_29 : decode cX5_haul 29 = .ok (.aload_n 0, 1) := by decide +kernel
theorem dX5_haul_30 : decode cX5_haul 30 = .ok (.aload_n 0, 1) := by decide +kernel
theorem dX5_haul_31 : decode cX5_haul 31 = .ok (.iload_n 1, 1) := by decide +kernel
theorem dX5_haul_32 : decode cX5_haul 32 = .ok (.iload_n 2, 1) := by decide +kernel
theorem dX5_haul_33 : decode cX5_haul 33 = .ok (.invokevirtual 132, 3) := by decide +kernel
theorem dX5_haul_36 : decode cX5_haul 36 = .ok (.invokevirtual 78, 3) := by decide +kernel
theorem dX5_haul_39 : decode cX5_haul 39 = .ok (.ireturn, 1) := by decide +kernel
theorem dX5_letOut_0 : decode cX5_letOut 0 = .ok (.iload_n 1, 1) := by decide +kernel
theorem dX5_letOut_1 : decode cX5_letOut 1 = .ok (.invokestatic 127, 3) := by decide +kernel
theorem dX5_letOut_4 : decode cX5_letOut 4 = .ok (.ifCond .eq 15, 3) := by decide +kernel
theorem dX5_letOut_7 : decode cX5_letOut 7 = .ok (.iload_n 2, 1) := by decide +kernel
theorem dX5_letOut_8 : decode cX5_letOut 8 = .ok (.i2l, 1) := by decide +kernel
theorem dX5_letOut_9 : decode cX5_letOut 9 = .ok (.lconst 0, 1) := by decide +kernel
theorem dX5_letOut_10 : decode cX5_letOut 10 = .ok (.ldc2_w 130, 3) := by decide +kernel
theorem dX5_letOut_13 : decode cX5_letOut 13 = .ok (.invokestatic 43, 3) := by decide +kernel
theorem dX5_letOut_16 : decode cX5_letOut 16 = .ok (.ifCond .ne 9, 3) := by decide +kernel
theorem dX5_letOut_19 : decode cX5_letOut 19 = .ok (.aload_n 0, 1) := by decide +kernel
theorem dX5_letOut_20 : decode cX5_letOut 20 = .ok (.iconst 1, 1) := by decide +kernel
theorem dX5_letOut_21 : decode cX5_letOut 21 = .ok (.invokevirtual 85, 3) := by decide +kernel
theorem dX5_letOut_24 : decode cX5_letOut 24 = .ok (.ireturn, 1) := by decide +kernel
theorem dX5_letOut_25 : decode cX5_letOut 25 = .ok (.aload_n 0, 1) := by decide +kernel
theorem dX5_letOut_26 : decode cX5_letOut 26 = .ok (.invokevirtual 75, 3) := by decide +kernel
theorem dX5_letOut_29 : decode cX5_letOut 29 = .ok (.iload_n 2, 1) := by decide +kernel
theorem dX5_letOut_30 : decode cX5_letOut 30 = .ok (.i2l, 1) := by decide +kernel
theorem dX5_letOut_31 : decode cX5_letOut 31 = .ok (.aload_n 0, 1) := by decide +kernel
theorem dX5_letOut_32 : decode cX5_letOut 32 = .ok (.invokevirtual 98, 3) := by decide +kernel
theorem dX5_letOut_35 : decode cX5_letOut 35 = .ok (.i2l, 1) := by decide +kernel
theorem dX5_letOut_36 : decode cX5_letOut 36 = .ok (.invokestatic 119, 3) := by decide +kernel
theorem dX5_letOut_39 : decode cX5_letOut 39 = .ok (.istore_n 3, 1) := by decide +kernel
theorem dX5_letOut_40 : decode cX5_letOut 40 = .ok (.iload_n 3, 1) := by decide +kernel
theorem dX5_letOut_41 : decode cX5_letOut 41 = .ok (.istore 4, 2) := by decide +kernel
theorem dX5_letOut_43 : decode cX5_letOut 43 = .ok (.aload_n 0, 1) := by decide +kernel
theorem dX5_letOut_44 : decode cX5_letOut 44 = .ok (.iload_n 1, 1) := by decide +kernel
theorem dX5_letOut_45 : decode cX5_letOut 45 = .ok (.invokevirtual 135, 3) := by decide +kernel
theorem dX5_letOut_48 : decode cX5_letOut 48 = .ok (.istore 5, 2) := by decide +kernel
theorem dX5_letOut_50 : decode cX5_letOut 50 = .ok (.iload 5, 2) := by decide +kernel
theorem dX5_letOut_52 : decode cX5_letOut 52 = .ok (.iconst (-1), 1) := by decide +kernel
theorem dX5_letOut_53 : decode cX5_letOut 53 = .ok (.if_icmp .ne 7, 3) := by decide +kernel
theorem dX5_letOut_56 : decode cX5_letOut 56 = .ok (.iconst 0, 1) := by decide +kernel
theorem dX5_letOut_57 : decode cX5_letOut 57 = .ok (.goto 26, 3) := by decide +kernel
theorem dX5_letOut_60 : decode cX5_letOut 60 = .ok (.iload 4, 2) := by decide +kernel
theorem dX5_letOut_62 : decode cX5_letOut 62 = .ok (.aload_n 0, 1) := by decide +kernel
theorem dX5_letOut_63 : decode cX5_letOut 63 = .ok (.iload 5, 2) := by decide +kernel
theorem dX5_letOut_65 : decode cX5_letOut 65 = .ok (.invokevirtual 56, 3) := by decide +kernel
theorem dX5_letOut_68 : decode cX5_letOut 68 = .ok (.idiv, 1) := by decide +kernel
theorem dX5_letOut_69 : decode cX5_letOut 69 = .ok (.i2l, 1) := by decide +kernel
theorem dX5_letOut_70 : decode cX5_letOut 70 = .ok (.aload_n 0, 1) := by decide +kernel
theorem dX5_letOut_71 : decode cX5_letOut 71 = .ok (.getfield 7, 3) := by decide +kernel
theorem dX5_letOut_74 : decode cX5_letOut 74 = .ok (.bipush 13, 2) := by decide +kernel
theorem dX5_letOut_76 : decode cX5_letOut 76 = .ok (.iload 5, 2) := by decide +kernel
theorem dX5_letOut_78 : decode cX5_letOut 78 = .ok (.iadd, 1) := by decide +kernel
theorem dX5_letOut_79 : decode cX5_letOut 79 = .ok (.laload, 1) := by decide +kernel
theorem dX5_letOut_80 : decode cX5_letOut 80 = .ok (.invokestatic 119, 3) := by decide +kernel
theorem dX5_letOut_83 : decode cX5_letOut 83 = .ok (.istore 6, 2) := by decide +kernel
theorem dX5_letOut_85 : decode cX5_letOut 85 = .ok (.iload 6, 2) := by decide +kernel
theorem dX5_letOut_87 : decode cX5_letOut 87 = .ok (.ifCond .le 97, 3) := by decide +kernel
theorem dX5_letOut_90 : decode cX5_letOut 90 = .ok (.aload_n 0, 1) := by decide +kernel
theorem dX5_letOut_91 : decode cX5_letOut 91 = .ok (.getfield 7, 3) := by decide +kernel
theorem dX5_letOut_94 : decode cX5_letOut 94 = .ok (.bipush 13, 2) := by decide +kernel
theorem dX5_letOut_96 : decode cX5_letOut 96 = .ok (.iload 5, 2) := by decide +kernel
theorem dX5_letOut_98 : decode cX5_letOut 98 = .ok (.iadd, 1) := by decide +kernel
theorem dX5_letOut_99 : decode cX5_letOut 99 = .ok (.dup2, 1) := by decide +kernel
theorem dX5_letOut_100 : decode cX5_letOut 100 = .ok (.laload, 1) := by decide +kernel
theorem dX5_letOut_101 : decode cX5_letOut 101 = .ok (.iload 6, 2) := by decide +kernel
theorem dX5_letOut_103 : decode cX5_letOut 103 = .ok (.i2l, 1) := by decide +kernel
theorem dX5_letOut_104 : decode cX5_letOut 104 = .ok (.lsub, 1) := by decide +kernel
theorem dX5_letOut_105 : decode cX5_letOut 105 = .ok (.lastore, 1) := by decide +kernel
theorem dX5_letOut_106 : decode cX5_letOut 106 = .ok (.iload 4, 2) := by decide +kernel
theorem dX5_letOut_108 : decode cX5_letOut 108 = .ok (.aload_n 0, 1) := by decide +kernel
theorem dX5_letOut_109 : decode cX5_letOut 109 = .ok (.iload 5, 2) := by decide +kernel
theorem dX5_letOut_111 : decode cX5_letOut 111 = .ok (.invokevirtual 56, 3) := by decide +kernel
theorem dX5_letOut_114 : decode cX5_letOut 114 = .ok (.iload 6, 2) := by decide +kernel
theorem dX5_letOut_116 : decode cX5_letOut 116 = .ok (.imul, 1) := by decide +kernel
theorem dX5_letOut_117 : decode cX5_letOut 117 = .ok (.isub, 1) := by decide +kernel
theorem dX5_letOut_118 : decode cX5_letOut 118 = .ok (.istore 4, 2) := by decide +kernel
theorem dX5_letOut_120 : decode cX5_letOut 120 = .ok (.aload_n 0, 1) := by decide +kernel
theorem dX5_letOut_121 : decode cX5_letOut 121 = .ok (.iload 5, 2) := by decide +kernel
theorem dX5_letOut_123 : decode cX5_letOut 123 = .ok (.iload 6, 2) := by decide +kernel
theorem dX5_letOut_125 : decode cX5_letOut 125 = .ok (.ineg, 1) := by decide +kernel
theorem dX5_letOut_126 : decode cX5_letOut 126 = .ok (.aload_n 0, 1) := by decide +kernel
theorem dX5_letOut_127 : decode cX5_letOut 127 = .ok (.iload 5, 2) := by decide +kernel
theorem dX5_letOut_129 : decode cX5_letOut 129 = .ok (.invokevirtual 56, 3) := by decide +kernel
theorem dX5_letOut_132 : decode cX5_letOut 132 = .ok (.ineg, 1) := by decide +kernel
theorem dX5_letOut_133 : decode cX5_letOut 133 = .ok (.iload 6, 2) := by decide +kernel
theorem dX5_letOut_135 : decode cX5_letOut 135 = .ok (.imul, 1) := by decide +kernel
theorem dX5_letOut_136 : decode cX5_letOut 136 = .ok (.invokevirtual 123, 3) := by decide +kernel
theorem dX5_letOut_139 : decode cX5_letOut 139 = .ok (.aload_n 0, 1) := by decide +kernel
theorem dX5_letOut_140 : decode cX5_letOut 140 = .ok (.iload_n 1, 1) := by decide +kernel
theorem dX5_letOut_141 : decode cX5_letOut 141 = .ok (.invokevirtual 135, 3) := by decide +kernel
theorem dX5_letOut_144 : decode cX5_letOut 144 = .ok (.istore 5, 2) := by decide +kernel
theorem dX5_letOut_146 : decode cX5_letOut 146 = .ok (.iload 5, 2) := by decide +kernel
theorem dX5_letOut_148 : decode cX5_letOut 148 = .ok (.iconst (-1), 1) := by decide +kernel
theorem dX5_letOut_149 : decode cX5_letOut 149 = .ok (.if_icmp .ne 7, 3) := by decide +kernel
theorem dX5_letOut_152 : decode cX5_letOut 152 = .ok (.iconst 0, 1) := by decide +kernel
theorem dX5_letOut_153 : decode cX5_letOut 153 = .ok (.goto 26, 3) := by decide +kernel
theorem dX5_letOut_156 : decode cX5_letOut 156 = .ok (.iload 4, 2) := by decide +kernel
theorem dX5_letOut_158 : decode cX5_letOut 158 = .ok (.aload_n 0, 1) := by decide +kernel
theorem dX5_letOut_159 : decode cX5_letOut 159 = .ok (.iload 5, 2) := by decide +kernel
theorem dX5_letOut_161 : decode cX5_letOut 161 = .ok (.invokevirtual 56, 3) := by decide +kernel
theorem dX5_letOut_164 : decode cX5_letOut 164 = .ok (.idiv, 1) := by decide +kernel
theorem dX5_letOut_165 : decode cX5_letOut 165 = .ok (.i2l, 1) := by decide +kernel
theorem dX5_letOut_166 : decode cX5_letOut 166 = .ok (.aload_n 0, 1) := by decide +kernel
theorem dX5_letOut_167 : decode cX5_letOut 167 = .ok (.getfield 7, 3) := by decide +kernel
theorem dX5_letOut_170 : decode cX5_letOut 170 = .ok (.bipush 13, 2) := by decide +kernel
theorem dX5_letOut_172 : decode cX5_letOut 172 = .ok (.iload 5, 2) := by decide +kernel
theorem dX5_letOut_174 : decode cX5_letOut 174 = .ok (.iadd, 1) := by decide +kernel
theorem dX5_letOut_175 : decode cX5_letOut 175 = .ok (.laload, 1) := by decide +kernel
theorem dX5_letOut_176 : decode cX5_letOut 176 = .ok (.invokestatic 119, 3) := by decide +kernel
theorem dX5_letOut_179 : decode cX5_letOut 179 = .ok (.istore 6, 2) := by decide +kernel
theorem dX5_letOut_181 : decode cX5_letOut 181 = .ok (.goto (-96), 3) := by decide +kernel
theorem dX5_letOut_184 : decode cX5_letOut 184 = .ok (.aload_n 0, 1) := by decide +kernel
theorem dX5_letOut_185 : decode cX5_letOut 185 = .ok (.iload_n 3, 1) := by decide +kernel
theorem dX5_letOut_186 : decode cX5_letOut 186 = .ok (.iload 4, 2) := by decide +kernel
theorem dX5_letOut_188 : decode cX5_letOut 188 = .ok (.isub, 1) := by decide +kernel
theorem dX5_letOut_189 : decode cX5_letOut 189 = .ok (.invokevirtual 78, 3) := by decide +kernel
theorem dX5_letOut_192 : decode cX5_letOut 192 = .ok (.ireturn, 1) := by decide +kernel
theorem dX5_blockTold_0 : decode cX5_blockTold 0 = .ok (.iload_n 2, 1) := by decide +kernel
theorem dX5_blockTold_1 : decode cX5_blockTold 1 = .ok (.tableswitch 87 0 5 #[39, 50, 61, 67, 73, 80], 39) := by decide +kernel
theorem dX5_blockTold_40 : decode cX5_blockTold 40 = .ok (.aload_n 0, 1) := by decide +kernel
theorem dX5_blockTold_41 : decode cX5_blockTold 41 = .ok (.getfield 7, 3) := by decide +kernel
theorem dX5_blockTold_44 : decode cX5_blockTold 44 = .ok (.bipush 9, 2) := by decide +kernel
theorem dX5_blockTold_46 : decode cX5_blockTold 46 = .ok (.iload_n 1, 1) := by decide +kernel
theorem dX5_blockTold_47 : decode cX5_blockTold 47 = .ok (.iadd, 1) := by decide +kernel
theorem dX5_blockTold_48 : decode cX5_blockTold 48 = .ok (.laload, 1) := by decide +kernel
theorem dX5_blockTold_49 : decode cX5_blockTold 49 = .ok (.l2i, 1) := by decide +kernel
theorem dX5_blockTold_50 : decode cX5_blockTold 50 = .ok (.ireturn, 1) := by decide +kernel
theorem dX5_blockTold_51 : decode cX5_blockTold 51 = .ok (.aload_n 0, 1) := by decide +kernel
theorem dX5_blockTold_52 : decode cX5_blockTold 52 = .ok (.getfield 7, 3) := by decide +kernel
theorem dX5_blockTold_55 : decode cX5_blockTold 55 = .ok (.bipush 13, 2) := by decide +kernel
theorem dX5_blockTold_57 : decode cX5_blockTold 57 = .ok (.iload_n 1, 1) := by decide +kernel
theorem dX5_blockTold_58 : decode cX5_blockTold 58 = .ok (.iadd, 1) := by decide +kernel
theorem dX5_blockTold_59 : decode cX5_blockTold 59 = .ok (.laload, 1) := by decide +kernel
theorem dX5_blockTold_60 : decode cX5_blockTold 60 = .ok (.l2i, 1) := by decide +kernel
theorem dX5_blockTold_61 : decode cX5_blockTold 61 = .ok (.ireturn, 1) := by decide +kernel
theorem dX5_blockTold_62 : decode cX5_blockTold 62 = .ok (.aload_n 0, 1) := by decide +kernel
theorem dX5_blockTold_63 : decode cX5_blockTold 63 = .ok (.iload_n 1, 1) := by decide +kernel
theorem dX5_blockTold_64 : decode cX5_blockTold 64 = .ok (.invokevirtual 56, 3) := by decide +kernel
theorem dX5_blockTold_67 : decode cX5_blockTold 67 = .ok (.ireturn, 1) := by decide +kernel
theorem dX5_blockTold_68 : decode cX5_blockTold 68 = .ok (.aload_n 0, 1) := by decide +kernel
theorem dX5_blockTold_69 : decode cX5_blockTold 69 = .ok (.iload_n 1, 1) := by decide +kernel
theorem dX5_blockTold_70 : decode cX5_blockTold 70 = .ok (.invokevirtual 52, 3) := by decide +kernel
theorem dX5_blockTold_73 : decode cX5_blockTold 73 = .ok (.ireturn, 1) := by decide +kernel
theorem dX5_blockTold_74 : decode cX5_blockTold 74 = .ok (.aload_n 0, 1) := by decide +kernel
theorem dX5_blockTold_75 : decode cX5_blockTold 75 = .ok (.iload_n 1, 1) := by decide +kernel
theorem dX5_blockTold_76 : decode cX5_blockTold 76 = .ok (.iconst 1, 1) := by decide +kernel
theorem dX5_blockTold_77 : decode cX5_blockTold 77 = .ok (.invokevirtual 112, 3) := by decide +kernel
theorem dX5_blockTold_80 : decode cX5_blockTold 80 = .ok (.ireturn, 1) := by decide +kernel
theorem dX5_blockTold_81 : decode cX5_blockTold 81 = .ok (.aload_n 0, 1) := by decide +kernel
theorem dX5_blockTold_82 : decode cX5_blockTold 82 = .ok (.iload_n 1, 1) := by decide +kernel
theorem dX5_blockTold_83 : decode cX5_blockTold 83 = .ok (.iconst 0, 1) := by decide +kernel
theorem dX5_blockTold_84 : decode cX5_blockTold 84 = .ok (.invokevirtual 112, 3) := by decide +kernel
theorem dX5_blockTold_87 : decode cX5_blockTold 87 = .ok (.ireturn, 1) := by decide +kernel
theorem dX5_blockTold_88 : decode cX5_blockTold 88 = .ok (.aload_n 0, 1) := by decide +kernel
theorem dX5_blockTold_89 : decode cX5_blockTold 89 = .ok (.iload_n 1, 1) := by decide +kernel
theorem dX5_blockTold_90 : decode cX5_blockTold 90 = .ok (.invokevirtual 56, 3) := by decide +kernel
theorem dX5_blockTold_93 : decode cX5_blockTold 93 = .ok (.sipush 9000, 3) := by decide +kernel
theorem dX5_blockTold_96 : decode cX5_blockTold 96 = .ok (.aload_n 0, 1) := by decide +kernel
theorem dX5_blockTold_97 : decode cX5_blockTold 97 = .ok (.getfield 7, 3) := by decide +kernel
theorem dX5_blockTold_100 : decode cX5_blockTold 100 = .ok (.bipush 13, 2) := by decide +kernel
theorem dX5_blockTold_102 : decode cX5_blockTold 102 = .ok (.iload_n 1, 1) := by decide +kernel
theorem dX5_blockTold_103 : decode cX5_blockTold 103 = .ok (.iadd, 1) := by decide +kernel
theorem dX5_blockTold_104 : decode cX5_blockTold 104 = .ok (.laload, 1) := by decide +kernel
theorem dX5_blockTold_105 : decode cX5_blockTold 105 = .ok (.l2i, 1) := by decide +kernel
theorem dX5_blockTold_106 : decode cX5_blockTold 106 = .ok (.isub, 1) := by decide +kernel
theorem dX5_blockTold_107 : decode cX5_blockTold 107 = .ok (.imul, 1) := by decide +kernel
theorem dX5_blockTold_108 : decode cX5_blockTold 108 = .ok (.ireturn, 1) := by decide +kernel
theorem dX5_block_0 : decode cX5_block 0 = .ok (.iload_n 1, 1) := by decide +kernel
theorem dX5_block_1 : decode cX5_block 1 = .ok (.invokestatic 81, 3) := by decide +kernel
theorem dX5_block_4 : decode cX5_block 4 = .ok (.ifCond .ne 9, 3) := by decide +kernel
theorem dX5_block_7 : decode cX5_block 7 = .ok (.aload_n 0, 1) := by decide +kernel
theorem dX5_block_8 : decode cX5_block 8 = .ok (.iconst 1, 1) := by decide +kernel
theorem dX5_block_9 : decode cX5_block 9 = .ok (.invokevirtual 85, 3) := by decide +kernel
theorem dX5_block_12 : decode cX5_block 12 = .ok (.ireturn, 1) := by decide +kernel
theorem dX5_block_13 : decode cX5_block 13 = .ok (.iload_n 2, 1) := by decide +kernel
theorem dX5_block_14 : decode cX5_block 14 = .ok (.i2l, 1) := by decide +kernel
theorem dX5_block_15 : decode cX5_block 15 = .ok (.lconst 0, 1) := by decide +kernel
theorem dX5_block_16 : decode cX5_block 16 = .ok (.ldc2_w 138, 3) := by decide +kernel
theorem dX5_block_19 : decode cX5_block 19 = .ok (.invokestatic 43, 3) := by decide +kernel
theorem dX5_block_22 : decode cX5_block 22 = .ok (.ifCond .eq 16, 3) := by decide +kernel
theorem dX5_block_25 : decode cX5_block 25 = .ok (.aload_n 0, 1) := by decide +kernel
theorem dX5_block_26 : decode cX5_block 26 = .ok (.aload_n 0, 1) := by decide +kernel
theorem dX5_block_27 : decode cX5_block 27 = .ok (.iload_n 1, 1) := by decide +kernel
theorem dX5_block_28 : decode cX5_block 28 = .ok (.iload_n 2, 1) := by decide +kernel
theorem dX5_block_29 : decode cX5_block 29 = .ok (.invokevirtual 140, 3) := by decide +kernel
theorem dX5_block_32 : decode cX5_block 32 = .ok (.invokevirtual 78, 3) := by decide +kernel
theorem dX5_block_35 : decode cX5_block 35 = .ok (.goto 8, 3) := by decide +kernel
theorem dX5_block_38 : decode cX5_block 38 = .ok (.aload_n 0, 1) := by decide +kernel
theorem dX5_block_39 : decode cX5_block 39 = .ok (.iconst 2, 1) := by decide +kernel
theorem dX5_block_40 : decode cX5_block 40 = .ok (.invokevirtual 85, 3) := by decide +kernel
theorem dX5_block_43 : decode cX5_block 43 = .ok (.ireturn, 1) := by decide +kernel
theorem dX5_pulley_0 : decode cX5_pulley 0 = .ok (.iload_n 1, 1) := by decide +kernel
theorem dX5_pulley_1 : decode cX5_pulley 1 = .ok (.i2l, 1) := by decide +kernel
theorem dX5_pulley_2 : decode cX5_pulley 2 = .ok (.lconst 0, 1) := by decide +kernel
theorem dX5_pulley_3 : decode cX5_pulley 3 = .ok (.aload_n 0, 1) := by decide +kernel
theorem dX5_pulley_4 : decode cX5_pulley 4 = .ok (.getfield 7, 3) := by decide +kernel
theorem dX5_pulley_7 : decode cX5_pulley 7 = .ok (.iconst 2, 1) := by decide +kernel
theorem dX5_pulley_8 : decode cX5_pulley 8 = .ok (.laload, 1) := by decide +kernel
theorem dX5_pulley_9 : decode cX5_pulley 9 = .ok (.lconst 1, 1) := by decide +kernel
theorem dX5_pulley_10 : decode cX5_pulley 10 = .ok (.lsub, 1) := by decide +kernel
theorem dX5_pulley_11 : decode cX5_pulley 11 = .ok (.invokestatic 43, 3) := by decide +kernel
theorem dX5_pulley_14 : decode cX5_pulley 14 = .ok (.ifCond .eq 20, 3) := by decide +kernel
theorem dX5_pulley_17 : decode cX5_pulley 17 = .ok (.aload_n 0, 1) := by decide +kernel
theorem dX5_pulley_18 : decode cX5_pulley 18 = .ok (.aload_n 0, 1) := by decide +kernel
theorem dX5_pulley_19 : decode cX5_pulley 19 = .ok (.getfield 7, 3) := by decide +kernel
theorem dX5_pulley_22 : decode cX5_pulley 22 = .ok (.bipush 17, 2) := by decide +kernel
theorem dX5_pulley_24 : decode cX5_pulley 24 = .ok (.iload_n 1, 1) := by decide +kernel
theorem dX5_pulley_25 : decode cX5_pulley 25 = .ok (.iadd, 1) := by decide +kernel
theorem dX5_pulley_26 : decode cX5_pulley 26 = .ok (.laload, 1) := by decide +kernel
theorem dX5_pulley_27 : decode cX5_pulley 27 = .ok (.l2i, 1) := by decide +kernel
theorem dX5_pulley_28 : decode cX5_pulley 28 = .ok (.invokevirtual 78, 3) := by decide +kernel
theorem dX5_pulley_31 : decode cX5_pulley 31 = .ok (.goto 8, 3) := by decide +kernel
theorem dX5_pulley_34 : decode cX5_pulley 34 = .ok (.aload_n 0, 1) := by decide +kernel
theorem dX5_pulley_35 : decode cX5_pulley 35 = .ok (.iconst 1, 1) := by decide +kernel
theorem dX5_pulley_36 : decode cX5_pulley 36 = .ok (.invokevirtual 85, 3) := by decide +kernel
theorem dX5_pulley_39 : decode cX5_pulley 39 = .ok (.ireturn, 1) := by decide +kernel
theorem dX5_force_0 : decode cX5_force 0 = .ok (.iload_n 1, 1) := by decide +kernel
theorem dX5_force_1 : decode cX5_force 1 = .ok (.invokestatic 127, 3) := by decide +kernel
theorem dX5_force_4 : decode cX5_force 4 = .ok (.ifCond .eq 21, 3) := by decide +kernel
theorem dX5_force_7 : decode cX5_force 7 = .ok (.iload_n 2, 1) := by decide +kernel
theorem dX5_force_8 : decode cX5_force 8 = .ok (.i2l, 1) := by decide +kernel
theorem dX5_force_9 : decode cX5_force 9 = .ok (.lconst 0, 1) := by decide +kernel
theorem dX5_force_10 : decode cX5_force 10 = .ok (.aload_n 0, 1) := by decide +kernel
theorem dX5_force_11 : decode cX5_force 11 = .ok (.invokevirtual 143, 3) := by decide +kernel
theorem dX5_force_14 : decode cX5_force 14 = .ok (.i2l, 1) := by decide +kernel
theorem dX5_force_15 : decode cX5_force 15 = .ok (.invokestatic 43, 3) := by decide +kernel
theorem dX5_force_18 : decode cX5_force 18 = .ok (.ifCond .eq 7, 3) := by decide +kernel
theorem dX5_force_21 : decode cX5_force 21 = .ok (.iconst 1, 1) := by decide +kernel
theorem dX5_force_22 : decode cX5_force 22 = .ok (.goto 4, 3) := by decide +kernel
theorem dX5_force_25 : decode cX5_force 25 = .ok (.iconst 0, 1) := by decide +kernel
theorem dX5_force_26 : decode cX5_force 26 = .ok (.istore 4, 2) := by decide +kernel
theorem dX5_force_28 : decode cX5_force 28 = .ok (.aload_n 0, 1) := by decide +kernel
theorem dX5_force_29 : decode cX5_force 29 = .ok (.iload 4, 2) := by decide +kernel
theorem dX5_force_31 : decode cX5_force 31 = .ok (.ifCond .eq 7, 3) := by decide +kernel
theorem dX5_force_34 : decode cX5_force 34 = .ok (.iconst 0, 1) := by decide +kernel
theorem dX5_force_35 : decode cX5_force 35 = .ok (.goto 4, 3) := by decide +kernel
theorem dX5_force_38 : decode cX5_force 38 = .ok (.iconst 1, 1) := by decide +kernel
theorem dX5_force_39 : decode cX5_force 39 = .ok (.putfield 37, 3) := by decide +kernel
theorem dX5_force_42 : decode cX5_force 42 = .ok (.iload 4, 2) := by decide +kernel
theorem dX5_force_44 : decode cX5_force 44 = .ok (.ifCond .eq 13, 3) := by decide +kernel
theorem dX5_force_47 : decode cX5_force 47 = .ok (.aload_n 0, 1) := by decide +kernel
theorem dX5_force_48 : decode cX5_force 48 = .ok (.iload_n 1, 1) := by decide +kernel
theorem dX5_force_49 : decode cX5_force 49 = .ok (.iload_n 2, 1) := by decide +kernel
theorem dX5_force_50 : decode cX5_force 50 = .ok (.iload_n 3, 1) := by decide +kernel
theorem dX5_force_51 : decode cX5_force 51 = .ok (.invokevirtual 146, 3) := by decide +kernel
theorem dX5_force_54 : decode cX5_force 54 = .ok (.goto 4, 3) := by decide +kernel
theorem dX5_force_57 : decode cX5_force 57 = .ok (.lconst 0, 1) := by decide +kernel
theorem dX5_force_58 : decode cX5_force 58 = .ok (.lreturn, 1) := by decide +kernel
theorem dX5_pull_0 : decode cX5_pull 0 = .ok (.aload_n 0, 1) := by decide +kernel
theorem dX5_pull_1 : decode cX5_pull 1 = .ok (.iload_n 1, 1) := by decide +kernel
theorem dX5_pull_2 : decode cX5_pull 2 = .ok (.invokestatic 81, 3) := by decide +kernel
theorem dX5_pull_5 : decode cX5_pull 5 = .ok (.ifCond .ne 7, 3) := by decide +kernel
theorem dX5_pull_8 : decode cX5_pull 8 = .ok (.iconst 1, 1) := by decide +kernel
theorem dX5_pull_9 : decode cX5_pull 9 = .ok (.goto 15, 3) := by decide +kernel
theorem dX5_pull_12 : decode cX5_pull 12 = .ok (.iload_n 2, 1) := by decide +kernel
theorem dX5_pull_13 : decode cX5_pull 13 = .ok (.invokestatic 127, 3) := by decide +kernel
theorem dX5_pull_16 : decode cX5_pull 16 = .ok (.ifCond .eq 7, 3) := by decide +kernel
theorem dX5_pull_19 : decode cX5_pull 19 = .ok (.iconst 0, 1) := by decide +kernel
theorem dX5_pull_20 : decode cX5_pull 20 = .ok (.goto 4, 3) := by decide +kernel
theorem dX5_pull_23 : decode cX5_pull 23 = .ok (.iconst 2, 1) := by decide +kernel
theorem dX5_pull_24 : decode cX5_pull 24 = .ok (.putfield 37, 3) := by decide +kernel
theorem dX5_pull_27 : decode cX5_pull 27 = .ok (.aload_n 0, 1) := by decide +kernel
theorem dX5_pull_28 : decode cX5_pull 28 = .ok (.getfield 37, 3) := by decide +kernel
theorem dX5_pull_31 : decode cX5_pull 31 = .ok (.ifCond .ne 13, 3) := by decide +kernel
theorem dX5_pull_34 : decode cX5_pull 34 = .ok (.aload_n 0, 1) := by decide +kernel
theorem dX5_pull_35 : decode cX5_pull 35 = .ok (.iload_n 1, 1) := by decide +kernel
theorem dX5_pull_36 : decode cX5_pull 36 = .ok (.iload_n 2, 1) := by decide +kernel
theorem dX5_pull_37 : decode cX5_pull 37 = .ok (.iload_n 3, 1) := by decide +kernel
theorem dX5_pull_38 : decode cX5_pull 38 = .ok (.invokevirtual 70, 3) := by decide +kernel
theorem dX5_pull_41 : decode cX5_pull 41 = .ok (.goto 4, 3) := by decide +kernel
theorem dX5_pull_44 : decode cX5_pull 44 = .ok (.lconst 0, 1) := by decide +kernel
theorem dX5_pull_45 : decode cX5_pull 45 = .ok (.lreturn, 1) := by decide +kernel
theorem dX5_valueTold_0 : decode cX5_valueTold 0 = .ok (.iload_n 1, 1) := by decide +kernel
theorem dX5_valueTold_1 : decode cX5_valueTold 1 = .ok (.tableswitch 114 0 8 #[51, 59, 64, 72, 80, 88, 93, 98, 106], 51) := by decide +kernel
theorem dX5_valueTold_52 : decode cX5_valueTold 52 = .ok (.aload_n 0, 1) := by decide +kernel
theorem dX5_valueTold_53 : decode cX5_valueTold 53 = .ok (.getfield 7, 3) := by decide +kernel
theorem dX5_valueTold_56 : decode cX5_valueTold 56 = .ok (.iconst 0, 1) := by decide +kernel
theorem dX5_valueTold_57 : decode cX5_valueTold 57 = .ok (.laload, 1) := by decide +kernel
theorem dX5_valueTold_58 : decode cX5_valueTold 58 = .ok (.l2i, 1) := by decide +kernel
theorem dX5_valueTold_59 : decode cX5_valueTold 59 = .ok (.ireturn, 1) := by decide +kernel
theorem dX5_valueTold_60 : decode cX5_valueTold 60 = .ok (.aload_n 0, 1) := by decide +kernel
theorem dX5_valueTold_61 : decode cX5_valueTold 61 = .ok (.invokevirtual 98, 3) := by decide +kernel
theorem dX5_valueTold_64 : decode cX5_valueTold 64 = .ok (.ireturn, 1) := by decide +kernel
theorem dX5_valueTold_65 : decode cX5_valueTold 65 = .ok (.aload_n 0, 1) := by decide +kernel
theorem dX5_valueTold_66 : decode cX5_valueTold 66 = .ok (.getfield 7, 3) := by decide +kernel
theorem dX5_valueTold_69 : decode cX5_valueTold 69 = .ok (.iconst 1, 1) := by decide +kernel
theorem dX5_valueTold_70 : decode cX5_valueTold 70 = .ok (.laload, 1) := by decide +kernel
theorem dX5_valueTold_71 : decode cX5_valueTold 71 = .ok (.l2i, 1) := by decide +kernel
theorem dX5_valueTold_72 : decode cX5_valueTold 72 = .ok (.ireturn, 1) := by decide +kernel
theorem dX5_valueTold_73 : decode cX5_valueTold 73 = .ok (.aload_n 0, 1) := by decide +kernel
theorem dX5_valueTold_74 : decode cX5_valueTold 74 = .ok (.getfield 7, 3) := by decide +kernel
theorem dX5_valueTold_77 : decode cX5_valueTold 77 = .ok (.iconst 2, 1) := by decide +kernel
theorem dX5_valueTold_78 : decode cX5_valueTold 78 = .ok (.laload, 1) := by decide +kernel
theorem dX5_valueTold_79 : decode cX5_valueTold 79 = .ok (.l2i, 1) := by decide +kernel
theorem dX5_valueTold_80 : decode cX5_valueTold 80 = .ok (.ireturn, 1) := by decide +kernel
theorem dX5_valueTold_81 : decode cX5_valueTold 81 = .ok (.aload_n 0, 1) := by decide +kernel
theorem dX5_valueTold_82 : decode cX5_valueTold 82 = .ok (.getfield 7, 3) := by decide +kernel
theorem dX5_valueTold_85 : decode cX5_valueTold 85 = .ok (.iconst 3, 1) := by decide +kernel
theorem dX5_valueTold_86 : decode cX5_valueTold 86 = .ok (.laload, 1) := by decide +kernel
theorem dX5_valueTold_87 : decode cX5_valueTold 87 = .ok (.l2i, 1) := by decide +kernel
theorem dX5_valueTold_88 : decode cX5_valueTold 88 = .ok (.ireturn, 1) := by decide +kernel
theorem dX5_valueTold_89 : decode cX5_valueTold 89 = .ok (.aload_n 0, 1) := by decide +kernel
theorem dX5_valueTold_90 : decode cX5_valueTold 90 = .ok (.invokevirtual 143, 3) := by decide +kernel
theorem dX5_valueTold_93 : decode cX5_valueTold 93 = .ok (.ireturn, 1) := by decide +kernel
theorem dX5_valueTold_94 : decode cX5_valueTold 94 = .ok (.aload_n 0, 1) := by decide +kernel
theorem dX5_valueTold_95 : decode cX5_valueTold 95 = .ok (.invokevirtual 59, 3) := by decide +kernel
theorem dX5_valueTold_98 : decode cX5_valueTold 98 = .ok (.ireturn, 1) := by decide +kernel
theorem dX5_valueTold_99 : decode cX5_valueTold 99 = .ok (.aload_n 0, 1) := by decide +kernel
theorem dX5_valueTold_100 : decode cX5_valueTold 100 = .ok (.getfield 7, 3) := by decide +kernel
theorem dX5_valueTold_103 : decode cX5_valueTold 103 = .ok (.iconst 4, 1) := by decide +kernel
theorem dX5_valueTold_104 : decode cX5_valueTold 104 = .ok (.laload, 1) := by decide +kernel
theorem dX5_valueTold_105 : decode cX5_valueTold 105 = .ok (.l2i, 1) := by decide +kernel
theorem dX5_valueTold_106 : decode cX5_valueTold 106 = .ok (.ireturn, 1) := by decide +kernel
theorem dX5_valueTold_107 : decode cX5_valueTold 107 = .ok (.aload_n 0, 1) := by decide +kernel
theorem dX5_valueTold_108 : decode cX5_valueTold 108 = .ok (.getfield 7, 3) := by decide +kernel
theorem dX5_valueTold_111 : decode cX5_valueTold 111 = .ok (.iconst 5, 1) := by decide +kernel
theorem dX5_valueTold_112 : decode cX5_valueTold 112 = .ok (.laload, 1) := by decide +kernel
theorem dX5_valueTold_113 : decode cX5_valueTold 113 = .ok (.l2i, 1) := by decide +kernel
theorem dX5_valueTold_114 : decode cX5_valueTold 114 = .ok (.ireturn, 1) := by decide +kernel
theorem dX5_valueTold_115 : decode cX5_valueTold 115 = .ok (.aload_n 0, 1) := by decide +kernel
theorem dX5_valueTold_116 : decode cX5_valueTold 116 = .ok (.getfield 7, 3) := by decide +kernel
theorem dX5_valueTold_119 : decode cX5_valueTold 119 = .ok (.bipush 6, 2) := by decide +kernel
theorem dX5_valueTold_121 : decode cX5_valueTold 121 = .ok (.laload, 1) := by decide +kernel
theorem dX5_valueTold_122 : decode cX5_valueTold 122 = .ok (.l2i, 1) := by decide +kernel
theorem dX5_valueTold_123 : decode cX5_valueTold 123 = .ok (.ireturn, 1) := by decide +kernel
theorem dX5_value_0 : decode cX5_value 0 = .ok (.iload_n 1, 1) := by decide +kernel
theorem dX5_value_1 : decode cX5_value 1 = .ok (.i2l, 1) := by decide +kernel
theorem dX5_value_2 : decode cX5_value 2 = .ok (.lconst 0, 1) := by decide +kernel
theorem dX5_value_3 : decode cX5_value 3 = .ok (.ldc2_w 149, 3) := by decide +kernel
theorem dX5_value_6 : decode cX5_value 6 = .ok (.invokestatic 43, 3) := by decide +kernel
theorem dX5_value_9 : decode cX5_value 9 = .ok (.ifCond .eq 15, 3) := by decide +kernel
theorem dX5_value_12 : decode cX5_value 12 = .ok (.aload_n 0, 1) := by decide +kernel
theorem dX5_value_13 : decode cX5_value 13 = .ok (.aload_n 0, 1) := by decide +kernel
theorem dX5_value_14 : decode cX5_value 14 = .ok (.iload_n 1, 1) := by decide +kernel
theorem dX5_value_15 : decode cX5_value 15 = .ok (.invokevirtual 151, 3) := by decide +kernel
theorem dX5_value_18 : decode cX5_value 18 = .ok (.invokevirtual 78, 3) := by decide +kernel
theorem dX5_value_21 : decode cX5_value 21 = .ok (.goto 8, 3) := by decide +kernel
theorem dX5_value_24 : decode cX5_value 24 = .ok (.aload_n 0, 1) := by decide +kernel
theorem dX5_value_25 : decode cX5_value 25 = .ok (.iconst 1, 1) := by decide +kernel
theorem dX5_value_26 : decode cX5_value 26 = .ok (.invokevirtual 85, 3) := by decide +kernel
theorem dX5_value_29 : decode cX5_value 29 = .ok (.ireturn, 1) := by decide +kernel
theorem dX5_work_0 : decode cX5_work 0 = .ok (.aload_n 0, 1) := by decide +kernel
theorem dX5_work_1 : decode cX5_work 1 = .ok (.iconst 0, 1) := by decide +kernel
theorem dX5_work_2 : decode cX5_work 2 = .ok (.putfield 37, 3) := by decide +kernel
theorem dX5_work_5 : decode cX5_work 5 = .ok (.aload_n 0, 1) := by decide +kernel
theorem dX5_work_6 : decode cX5_work 6 = .ok (.getfield 7, 3) := by decide +kernel
theorem dX5_work_9 : decode cX5_work 9 = .ok (.iload_n 1, 1) := by decide +kernel
theorem dX5_work_10 : decode cX5_work 10 = .ok (.ifCond .eq 8, 3) := by decide +kernel
theorem dX5_work_13 : decode cX5_work 13 = .ok (.bipush 8, 2) := by decide +kernel
theorem dX5_work_15 : decode cX5_work 15 = .ok (.goto 5, 3) := by decide +kernel
theorem dX5_work_18 : decode cX5_work 18 = .ok (.bipush 7, 2) := by decide +kernel
theorem dX5_work_20 : decode cX5_work 20 = .ok (.laload, 1) := by decide +kernel
theorem dX5_work_21 : decode cX5_work 21 = .ok (.lreturn, 1) := by decide +kernel
theorem dX5_entry_0 : decode cX5_entry 0 = .ok (.iload_n 1, 1) := by decide +kernel
theorem dX5_entry_1 : decode cX5_entry 1 = .ok (.i2l, 1) := by decide +kernel
theorem dX5_entry_2 : decode cX5_entry 2 = .ok (.lconst 0, 1) := by decide +kernel
theorem dX5_entry_3 : decode cX5_entry 3 = .ok (.aload_n 0, 1) := by decide +kernel
theorem dX5_entry_4 : decode cX5_entry 4 = .ok (.getfield 7, 3) := by decide +kernel
theorem dX5_entry_7 : decode cX5_entry 7 = .ok (.bipush 6, 2) := by decide +kernel
theorem dX5_entry_9 : decode cX5_entry 9 = .ok (.laload, 1) := by decide +kernel
theorem dX5_entry_10 : decode cX5_entry 10 = .ok (.lconst 1, 1) := by decide +kernel
theorem dX5_entry_11 : decode cX5_entry 11 = .ok (.lsub, 1) := by decide +kernel
theorem dX5_entry_12 : decode cX5_entry 12 = .ok (.invokestatic 43, 3) := by decide +kernel
theorem dX5_entry_15 : decode cX5_entry 15 = .ok (.ifCond .ne 9, 3) := by decide +kernel
theorem dX5_entry_18 : decode cX5_entry 18 = .ok (.aload_n 0, 1) := by decide +kernel
theorem dX5_entry_19 : decode cX5_entry 19 = .ok (.iconst 1, 1) := by decide +kernel
theorem dX5_entry_20 : decode cX5_entry 20 = .ok (.invokevirtual 85, 3) := by decide +kernel
theorem dX5_entry_23 : decode cX5_entry 23 = .ok (.ireturn, 1) := by decide +kernel
theorem dX5_entry_24 : decode cX5_entry 24 = .ok (.iload_n 2, 1) := by decide +kernel
theorem dX5_entry_25 : decode cX5_entry 25 = .ok (.i2l, 1) := by decide +kernel
theorem dX5_entry_26 : decode cX5_entry 26 = .ok (.lconst 0, 1) := by decide +kernel
theorem dX5_entry_27 : decode cX5_entry 27 = .ok (.ldc2_w 101, 3) := by decide +kernel
theorem dX5_entry_30 : decode cX5_entry 30 = .ok (.invokestatic 43, 3) := by decide +kernel
theorem dX5_entry_33 : decode cX5_entry 33 = .ok (.ifCond .eq 24, 3) := by decide +kernel
theorem dX5_entry_36 : decode cX5_entry 36 = .ok (.aload_n 0, 1) := by decide +kernel
theorem dX5_entry_37 : decode cX5_entry 37 = .ok (.aload_n 0, 1) := by decide +kernel
theorem dX5_entry_38 : decode cX5_entry 38 = .ok (.getfield 7, 3) := by decide +kernel
theorem dX5_entry_41 : decode cX5_entry 41 = .ok (.bipush 27, 2) := by decide +kernel
theorem dX5_entry_43 : decode cX5_entry 43 = .ok (.iconst 3, 1) := by decide +kernel
theorem dX5_entry_44 : decode cX5_entry 44 = .ok (.iload_n 1, 1) := by decide +kernel
theorem dX5_entry_45 : decode cX5_entry 45 = .ok (.imul, 1) := by decide +kernel
theorem dX5_entry_46 : decode cX5_entry 46 = .ok (.iadd, 1) := by decide +kernel
theorem dX5_entry_47 : decode cX5_entry 47 = .ok (.iload_n 2, 1) := by decide +kernel
theorem dX5_entry_48 : decode cX5_entry 48 = .ok (.iadd, 1) := by decide +kernel
theorem dX5_entry_49 : decode cX5_entry 49 = .ok (.laload, 1) := by decide +kernel
theorem dX5_entry_50 : decode cX5_entry 50 = .ok (.l2i, 1) := by decide +kernel
theorem dX5_entry_51 : decode cX5_entry 51 = .ok (.invokevirtual 78, 3) := by decide +kernel
theorem dX5_entry_54 : decode cX5_entry 54 = .ok (.goto 8, 3) := by decide +kernel
theorem dX5_entry_57 : decode cX5_entry 57 = .ok (.aload_n 0, 1) := by decide +kernel
theorem dX5_entry_58 : decode cX5_entry 58 = .ok (.iconst 2, 1) := by decide +kernel
theorem dX5_entry_59 : decode cX5_entry 59 = .ok (.invokevirtual 85, 3) := by decide +kernel
theorem dX5_entry_62 : decode cX5_entry 62 = .ok (.ireturn, 1) := by decide +kernel
theorem dX5_first_0 : decode cX5_first 0 = .ok (.aload_n 0, 1) := by decide +kernel
theorem dX5_first_1 : decode cX5_first 1 = .ok (.aload_n 0, 1) := by decide +kernel
theorem dX5_first_2 : decode cX5_first 2 = .ok (.ldc 69, 2) := by decide +kernel
theorem dX5_first_4 : decode cX5_first 4 = .ok (.invokevirtual 116, 3) := by decide +kernel
theorem dX5_first_7 : decode cX5_first 7 = .ok (.invokevirtual 78, 3) := by decide +kernel
theorem dX5_first_10 : decode cX5_first 10 = .ok (.ireturn, 1) := by decide +kernel
theorem dX5_forceForAll_0 : decode cX5_forceForAll 0 = .ok (.iconst 0, 1) := by decide +kernel
theorem dX5_forceForAll_1 : decode cX5_forceForAll 1 = .ok (.istore_n 1, 1) := by decide +kernel
theorem dX5_forceForAll_2 : decode cX5_forceForAll 2 = .ok (.iconst 0, 1) := by decide +kernel
theorem dX5_forceForAll_3 : decode cX5_forceForAll 3 = .ok (.istore_n 2, 1) := by decide +kernel
theorem dX5_forceForAll_4 : decode cX5_forceForAll 4 = .ok (.iload_n 2, 1) := by decide +kernel
theorem dX5_forceForAll_5 : decode cX5_forceForAll 5 = .ok (.iconst 4, 1) := by decide +kernel
theorem dX5_forceForAll_6 : decode cX5_forceForAll 6 = .ok (.if_icmp .ge 62, 3) := by decide +kernel
theorem dX5_forceForAll_9 : decode cX5_forceForAll 9 = .ok (.aload_n 0, 1) := by decide +kernel
theorem dX5_forceForAll_10 : decode cX5_forceForAll 10 = .ok (.iload_n 2, 1) := by decide +kernel
theorem dX5_forceForAll_11 : decode cX5_forceForAll 11 = .ok (.invokevirtual 56, 3) := by decide +kernel
theorem dX5_forceForAll_14 : decode cX5_forceForAll 14 = .ok (.ifCond .le 48, 3) := by decide +kernel
theorem dX5_forceForAll_17 : decode cX5_forceForAll 17 = .ok (.aload_n 0, 1) := by decide +kernel
theorem dX5_forceForAll_18 : decode cX5_forceForAll 18 = .ok (.getfield 7, 3) := by decide +kernel
theorem dX5_forceForAll_21 : decode cX5_forceForAll 21 = .ok (.bipush 13, 2) := by decide +kernel
theorem dX5_forceForAll_23 : decode cX5_forceForAll 23 = .ok (.iload_n 2, 1) := by decide +kernel
theorem dX5_forceForAll_24 : decode cX5_forceForAll 24 = .ok (.iadd, 1) := by decide +kernel
theorem dX5_forceForAll_25 : decode cX5_forceForAll 25 = .ok (.laload, 1) := by decide +kernel
theorem dX5_forceForAll_26 : decode cX5_forceForAll 26 = .ok (.ldc2_w 110, 3) := by decide +kernel
theorem dX5_forceForAll_29 : decode cX5_forceForAll 29 = .ok (.lcmp, 1) := by decide +kernel
theorem dX5_forceForAll_30 : decode cX5_forceForAll 30 = .ok (.ifCond .ge 32, 3) := by decide +kernel
theorem dX5_forceForAll_33 : decode cX5_forceForAll 33 = .ok (.aload_n 0, 1) := by decide +kernel
theorem dX5_forceForAll_34 : decode cX5_forceForAll 34 = .ok (.iload_n 2, 1) := by decide +kernel
theorem dX5_forceForAll_35 : decode cX5_forceForAll 35 = .ok (.iconst 1, 1) := by decide +kernel
theorem dX5_forceForAll_36 : decode cX5_forceForAll 36 = .ok (.invokevirtual 112, 3) := by decide +kernel
theorem dX5_forceForAll_39 : decode cX5_forceForAll 39 = .ok (.istore_n 3, 1) := by decide +kernel
theorem dX5_forceForAll_40 : decode cX5_forceForAll 40 = .ok (.iload_n 3, 1) := by decide +kernel
theorem dX5_forceForAll_41 : decode cX5_forceForAll 41 = .ok (.iconst (-1), 1) := by decide +kernel
theorem dX5_forceForAll_42 : decode cX5_forceForAll 42 = .ok (.if_icmp .ne 9, 3) := by decide +kernel
theorem dX5_forceForAll_45 : decode cX5_forceForAll 45 = .ok (.aload_n 0, 1) := by decide +kernel
theorem dX5_forceForAll_46 : decode cX5_forceForAll 46 = .ok (.iconst (-1), 1) := by decide +kernel
theorem dX5_forceForAll_47 : decode cX5_forceForAll 47 = .ok (.invokevirtual 78, 3) := by decide +kernel
theorem dX5_forceForAll_50 : decode cX5_forceForAll 50 = .ok (.ireturn, 1) := by decide +kernel
theorem dX5_forceForAll_51 : decode cX5_forceForAll 51 = .ok (.iload_n 3, 1) := by decide +kernel
theorem dX5_forceForAll_52 : decode cX5_forceForAll 52 = .ok (.iload_n 1, 1) := by decide +kernel
theorem dX5_forceForAll_53 : decode cX5_forceForAll 53 = .ok (.if_icmp .le 7, 3) := by decide +kernel
theorem dX5_forceForAll_56 : decode cX5_forceForAll 56 = .ok (.iload_n 3, 1) := by decide +kernel
theorem dX5_forceForAll_57 : decode cX5_forceForAll 57 = .ok (.goto 4, 3) := by decide +kernel
theorem dX5_forceForAll_60 : decode cX5_forceForAll 60 = .ok (.iload_n 1, 1) := by decide +kernel
theorem dX5_forceForAll_61 : decode cX5_forceForAll 61 = .ok (.istore_n 1, 1) := by decide +kernel
theorem dX5_forceForAll_62 : decode cX5_forceForAll 62 = .ok (.iinc 2 1, 3) := by decide +kernel
theorem dX5_forceForAll_65 : decode cX5_forceForAll 65 = .ok (.goto (-61), 3) := by decide +kernel
theorem dX5_forceForAll_68 : decode cX5_forceForAll 68 = .ok (.aload_n 0, 1) := by decide +kernel
theorem dX5_forceForAll_69 : decode cX5_forceForAll 69 = .ok (.iload_n 1, 1) := by decide +kernel
theorem dX5_forceForAll_70 : decode cX5_forceForAll 70 = .ok (.invokevirtual 78, 3) := by decide +kernel
theorem dX5_forceForAll_73 : decode cX5_forceForAll 73 = .ok (.ireturn, 1) := by decide +kernel
theorem dX5_pulleysFor_0 : decode cX5_pulleysFor 0 = .ok (.iload_n 1, 1) := by decide +kernel
theorem dX5_pulleysFor_1 : decode cX5_pulleysFor 1 = .ok (.invokestatic 81, 3) := by decide +kernel
theorem dX5_pulleysFor_4 : decode cX5_pulleysFor 4 = .ok (.ifCond .ne 9, 3) := by decide +kernel
theorem dX5_pulleysFor_7 : decode cX5_pulleysFor 7 = .ok (.aload_n 0, 1) := by decide +kernel
theorem dX5_pulleysFor_8 : decode cX5_pulleysFor 8 = .ok (.iconst 1, 1) := by decide +kernel
theorem dX5_pulleysFor_9 : decode cX5_pulleysFor 9 = .ok (.invokevirtual 85, 3) := by decide +kernel
theorem dX5_pulleysFor_12 : decode cX5_pulleysFor 12 = .ok (.ireturn, 1) := by decide +kernel
theorem dX5_pulleysFor_13 : decode cX5_pulleysFor 13 = .ok (.iload_n 2, 1) := by decide +kernel
theorem dX5_pulleysFor_14 : decode cX5_pulleysFor 14 = .ok (.invokestatic 127, 3) := by decide +kernel
theorem dX5_pulleysFor_17 : decode cX5_pulleysFor 17 = .ok (.ifCond .ne 9, 3) := by decide +kernel
theorem dX5_pulleysFor_20 : decode cX5_pulleysFor 20 = .ok (.aload_n 0, 1) := by decide +kernel
theorem dX5_pulleysFor_21 : decode cX5_pulleysFor 21 = .ok (.iconst 2, 1) := by decide +kernel
theorem dX5_pulleysFor_22 : decode cX5_pulleysFor 22 = .ok (.invokevirtual 85, 3) := by decide +kernel
theorem dX5_pulleysFor_25 : decode cX5_pulleysFor 25 = .ok (.ireturn, 1) := by decide +kernel
theorem dX5_pulleysFor_26 : decode cX5_pulleysFor 26 = .ok (.iload_n 2, 1) := by decide +kernel
theorem dX5_pulleysFor_27 : decode cX5_pulleysFor 27 = .ok (.i2l, 1) := by decide +kernel
theorem dX5_pulleysFor_28 : decode cX5_pulleysFor 28 = .ok (.lstore_n 3, 1) := by decide +kernel
theorem dX5_pulleysFor_29 : decode cX5_pulleysFor 29 = .ok (.lconst 0, 1) := by decide +kernel
theorem dX5_pulleysFor_30 : decode cX5_pulleysFor 30 = .ok (.lstore 5, 2) := by decide +kernel
theorem dX5_pulleysFor_32 : decode cX5_pulleysFor 32 = .ok (.iconst 1, 1) := by decide +kernel
theorem dX5_pulleysFor_33 : decode cX5_pulleysFor 33 = .ok (.istore 7, 2) := by decide +kernel
theorem dX5_pulleysFor_35 : decode cX5_pulleysFor 35 = .ok (.iload 7, 2) := by decide +kernel
theorem dX5_pulleysFor_37 : decode cX5_pulleysFor 37 = .ok (.bipush 10, 2) := by decide +kernel
theorem dX5_pulleysFor_39 : decode cX5_pulleysFor 39 = .ok (.if_icmp .gt 56, 3) := by decide +kernel
theorem dX5_pulleysFor_42 : decode cX5_pulleysFor 42 = .ok (.aload_n 0, 1) := by decide +kernel
theorem dX5_pulleysFor_43 : decode cX5_pulleysFor 43 = .ok (.lload_n 3, 1) := by decide +kernel
theorem dX5_pulleysFor_44 : decode cX5_pulleysFor 44 = .ok (.iconst 1, 1) := by decide +kernel
theorem dX5_pulleysFor_45 : decode cX5_pulleysFor 45 = .ok (.invokevirtual 65, 3) := by decide +kernel
theorem dX5_pulleysFor_48 : decode cX5_pulleysFor 48 = .ok (.lstore 8, 2) := by decide +kernel
theorem dX5_pulleysFor_50 : decode cX5_pulleysFor 50 = .ok (.aload_n 0, 1) := by decide +kernel
theorem dX5_pulleysFor_51 : decode cX5_pulleysFor 51 = .ok (.lload 8, 2) := by decide +kernel
theorem dX5_pulleysFor_53 : decode cX5_pulleysFor 53 = .ok (.iconst 1, 1) := by decide +kernel
theorem dX5_pulleysFor_54 : decode cX5_pulleysFor 54 = .ok (.invokevirtual 65, 3) := by decide +kernel
theorem dX5_pulleysFor_57 : decode cX5_pulleysFor 57 = .ok (.lstore_n 3, 1) := by decide +kernel
theorem dX5_pulleysFor_58 : decode cX5_pulleysFor 58 = .ok (.lload 5, 2) := by decide +kernel
theorem dX5_pulleysFor_60 : decode cX5_pulleysFor 60 = .ok (.lload 8, 2) := by decide +kernel
theorem dX5_pulleysFor_62 : decode cX5_pulleysFor 62 = .ok (.lload_n 3, 1) := by decide +kernel
theorem dX5_pulleysFor_63 : decode cX5_pulleysFor 63 = .ok (.ladd, 1) := by decide +kernel
theorem dX5_pulleysFor_64 : decode cX5_pulleysFor 64 = .ok (.ladd, 1) := by decide +kernel
theorem dX5_pulleysFor_65 : decode cX5_pulleysFor 65 = .ok (.lstore 5, 2) := by decide +kernel
theorem dX5_pulleysFor_67 : decode cX5_pulleysFor 67 = .ok (.lload 5, 2) := by decide +kernel
theorem dX5_pulleysFor_69 : decode cX5_pulleysFor 69 = .ok (.aload_n 0, 1) := by decide +kernel
theorem dX5_pulleysFor_70 : decode cX5_pulleysFor 70 = .ok (.getfield 7, 3) := by decide +kernel
theorem dX5_pulleysFor_73 : decode cX5_pulleysFor 73 = .ok (.bipush 9, 2) := by decide +kernel
theorem dX5_pulleysFor_75 : decode cX5_pulleysFor 75 = .ok (.iload_n 1, 1) := by decide +kernel
theorem dX5_pulleysFor_76 : decode cX5_pulleysFor 76 = .ok (.iadd, 1) := by decide +kernel
theorem dX5_pulleysFor_77 : decode cX5_pulleysFor 77 = .ok (.laload, 1) := by decide +kernel
theorem dX5_pulleysFor_78 : decode cX5_pulleysFor 78 = .ok (.lcmp, 1) := by decide +kernel
theorem dX5_pulleysFor_79 : decode cX5_pulleysFor 79 = .ok (.ifCond .lt 10, 3) := by decide +kernel
theorem dX5_pulleysFor_82 : decode cX5_pulleysFor 82 = .ok (.aload_n 0, 1) := by decide +kernel
theorem dX5_pulleysFor_83 : decode cX5_pulleysFor 83 = .ok (.iload 7, 2) := by decide +kernel
theorem dX5_pulleysFor_85 : decode cX5_pulleysFor 85 = .ok (.invokevirtual 78, 3) := by decide +kernel
theorem dX5_pulleysFor_88 : decode cX5_pulleysFor 88 = .ok (.ireturn, 1) := by decide +kernel
theorem dX5_pulleysFor_89 : decode cX5_pulleysFor 89 = .ok (.iinc 7 1, 3) := by decide +kernel
theorem dX5_pulleysFor_92 : decode cX5_pulleysFor 92 = .ok (.goto (-57), 3) := by decide +kernel
theorem dX5_pulleysFor_95 : decode cX5_pulleysFor 95 = .ok (.aload_n 0, 1) := by decide +kernel
theorem dX5_pulleysFor_96 : decode cX5_pulleysFor 96 = .ok (.iconst (-1), 1) := by decide +kernel
theorem dX5_pulleysFor_97 : decode cX5_pulleysFor 97 = .ok (.invokevirtual 78, 3) := by decide +kernel
theorem dX5_pulleysFor_100 : decode cX5_pulleysFor 100 = .ok (.ireturn, 1) := by decide +kernel
theorem dX5_bestEnd_0 : decode cX5_bestEnd 0 = .ok (.iload_n 1, 1) := by decide +kernel
theorem dX5_bestEnd_1 : decode cX5_bestEnd 1 = .ok (.invokestatic 81, 3) := by decide +kernel
theorem dX5_bestEnd_4 : decode cX5_bestEnd 4 = .ok (.ifCond .ne 9, 3) := by decide +kernel
theorem dX5_bestEnd_7 : decode cX5_bestEnd 7 = .ok (.aload_n 0, 1) := by decide +kernel
theorem dX5_bestEnd_8 : decode cX5_bestEnd 8 = .ok (.iconst 1, 1) := by decide +kernel
theorem dX5_bestEnd_9 : decode cX5_bestEnd 9 = .ok (.invokevirtual 85, 3) := by decide +kernel
theorem dX5_bestEnd_12 : decode cX5_bestEnd 12 = .ok (.ireturn, 1) := by decide +kernel
theorem dX5_bestEnd_13 : decode cX5_bestEnd 13 = .ok (.aload_n 0, 1) := by decide +kernel
theorem dX5_bestEnd_14 : decode cX5_bestEnd 14 = .ok (.getfield 7, 3) := by decide +kernel
theorem dX5_bestEnd_17 : decode cX5_bestEnd 17 = .ok (.iconst 3, 1) := by decide +kernel
theorem dX5_bestEnd_18 : decode cX5_bestEnd 18 = .ok (.laload, 1) := by decide +kernel
theorem dX5_bestEnd_19 : decode cX5_bestEnd 19 = .ok (.lstore_n 2, 1) := by decide +kernel
theorem dX5_bestEnd_20 : decode cX5_bestEnd 20 = .ok (.iconst (-1), 1) := by decide +kernel
theorem dX5_bestEnd_21 : decode cX5_bestEnd 21 = .ok (.istore 4, 2) := by decide +kernel
theorem dX5_bestEnd_23 : decode cX5_bestEnd 23 = .ok (.iconst 0, 1) := by decide +kernel
theorem dX5_bestEnd_24 : decode cX5_bestEnd 24 = .ok (.istore 5, 2) := by decide +kernel
theorem dX5_bestEnd_26 : decode cX5_bestEnd 26 = .ok (.iconst 0, 1) := by decide +kernel
theorem dX5_bestEnd_27 : decode cX5_bestEnd 27 = .ok (.istore 6, 2) := by decide +kernel
theorem dX5_bestEnd_29 : decode cX5_bestEnd 29 = .ok (.iload 6, 2) := by decide +kernel
theorem dX5_bestEnd_31 : decode cX5_bestEnd 31 = .ok (.iconst 4, 1) := by decide +kernel
theorem dX5_bestEnd_32 : decode cX5_bestEnd 32 = .ok (.if_icmp .gt 80, 3) := by decide +kernel
theorem dX5_bestEnd_35 : decode cX5_bestEnd 35 = .ok (.aload_n 0, 1) := by decide +kernel
theorem dX5_bestEnd_36 : decode cX5_bestEnd 36 = .ok (.getfield 7, 3) := by decide +kernel
theorem dX5_bestEnd_39 : decode cX5_bestEnd 39 = .ok (.iconst 3, 1) := by decide +kernel
theorem dX5_bestEnd_40 : decode cX5_bestEnd 40 = .ok (.iload 6, 2) := by decide +kernel
theorem dX5_bestEnd_42 : decode cX5_bestEnd 42 = .ok (.i2l, 1) := by decide +kernel
theorem dX5_bestEnd_43 : decode cX5_bestEnd 43 = .ok (.lastore, 1) := by decide +kernel
theorem dX5_bestEnd_44 : decode cX5_bestEnd 44 = .ok (.aload_n 0, 1) := by decide +kernel
theorem dX5_bestEnd_45 : decode cX5_bestEnd 45 = .ok (.iload_n 1, 1) := by decide +kernel
theorem dX5_bestEnd_46 : decode cX5_bestEnd 46 = .ok (.iconst 1, 1) := by decide +kernel
theorem dX5_bestEnd_47 : decode cX5_bestEnd 47 = .ok (.invokevirtual 112, 3) := by decide +kernel
theorem dX5_bestEnd_50 : decode cX5_bestEnd 50 = .ok (.istore 7, 2) := by decide +kernel
theorem dX5_bestEnd_52 : decode cX5_bestEnd 52 = .ok (.iload 7, 2) := by decide +kernel
theorem dX5_bestEnd_54 : decode cX5_bestEnd 54 = .ok (.iconst (-1), 1) := by decide +kernel
theorem dX5_bestEnd_55 : decode cX5_bestEnd 55 = .ok (.if_icmp .eq 20, 3) := by decide +kernel
theorem dX5_bestEnd_58 : decode cX5_bestEnd 58 = .ok (.iload 4, 2) := by decide +kernel
theorem dX5_bestEnd_60 : decode cX5_bestEnd 60 = .ok (.iconst (-1), 1) := by decide +kernel
theorem dX5_bestEnd_61 : decode cX5_bestEnd 61 = .ok (.if_icmp .eq 10, 3) := by decide +kernel
theorem dX5_bestEnd_64 : decode cX5_bestEnd 64 = .ok (.iload 7, 2) := by decide +kernel
theorem dX5_bestEnd_66 : decode cX5_bestEnd 66 = .ok (.iload 5, 2) := by decide +kernel
theorem dX5_bestEnd_68 : decode cX5_bestEnd 68 = .ok (.if_icmp .ge 7, 3) := by decide +kernel
theorem dX5_bestEnd_71 : decode cX5_bestEnd 71 = .ok (.iconst 1, 1) := by decide +kernel
theorem dX5_bestEnd_72 : decode cX5_bestEnd 72 = .ok (.goto 4, 3) := by decide +kernel
theorem dX5_bestEnd_75 : decode cX5_bestEnd 75 = .ok (.iconst 0, 1) := by decide +kernel
theorem dX5_bestEnd_76 : decode cX5_bestEnd 76 = .ok (.istore 8, 2) := by decide +kernel
theorem dX5_bestEnd_78 : decode cX5_bestEnd 78 = .ok (.iload 8, 2) := by decide +kernel
theorem dX5_bestEnd_80 : decode cX5_bestEnd 80 = .ok (.ifCond .eq 8, 3) := by decide +kernel
theorem dX5_bestEnd_83 : decode cX5_bestEnd 83 = .ok (.iload 6, 2) := by decide +kernel
theorem dX5_bestEnd_85 : decode cX5_bestEnd 85 = .ok (.goto 5, 3) := by decide +kernel
theorem dX5_bestEnd_88 : decode cX5_bestEnd 88 = .ok (.iload 4, 2) := by decide +kernel
theorem dX5_bestEnd_90 : decode cX5_bestEnd 90 = .ok (.istore 4, 2) := by decide +kernel
theorem dX5_bestEnd_92 : decode cX5_bestEnd 92 = .ok (.iload 8, 2) := by decide +kernel
theorem dX5_bestEnd_94 : decode cX5_bestEnd 94 = .ok (.ifCond .eq 8, 3) := by decide +kernel
theorem dX5_bestEnd_97 : decode cX5_bestEnd 97 = .ok (.iload 7, 2) := by decide +kernel
theorem dX5_bestEnd_99 : decode cX5_bestEnd 99 = .ok (.goto 5, 3) := by decide +kernel
theorem dX5_bestEnd_102 : decode cX5_bestEnd 102 = .ok (.iload 5, 2) := by decide +kernel
theorem dX5_bestEnd_104 : decode cX5_bestEnd 104 = .ok (.istore 5, 2) := by decide +kernel
theorem dX5_bestEnd_106 : decode cX5_bestEnd 106 = .ok (.iinc 6 1, 3) := by decide +kernel
theorem dX5_bestEnd_109 : decode cX5_bestEnd 109 = .ok (.goto (-80), 3) := by decide +kernel
theorem dX5_bestEnd_112 : decode cX5_bestEnd 112 = .ok (.aload_n 0, 1) := by decide +kernel
theorem dX5_bestEnd_113 : decode cX5_bestEnd 113 = .ok (.getfield 7, 3) := by decide +kernel
theorem dX5_bestEnd_116 : decode cX5_bestEnd 116 = .ok (.iconst 3, 1) := by decide +kernel
theorem dX5_bestEnd_117 : decode cX5_bestEnd 117 = .ok (.lload_n 2, 1) := by decide +kernel
theorem dX5_bestEnd_118 : decode cX5_bestEnd 118 = .ok (.lastore, 1) := by decide +kernel
theorem dX5_bestEnd_119 : decode cX5_bestEnd 119 = .ok (.aload_n 0, 1) := by decide +kernel
theorem dX5_bestEnd_120 : decode cX5_bestEnd 120 = .ok (.iload 4, 2) := by decide +kernel
theorem dX5_bestEnd_122 : decode cX5_bestEnd 122 = .ok (.invokevirtual 78, 3) := by decide +kernel
theorem dX5_bestEnd_125 : decode cX5_bestEnd 125 = .ok (.ireturn, 1) := by decide +kernel
theorem dX5_changes_0 : decode cX5_changes 0 = .ok (.aload_n 0, 1) := by decide +kernel
theorem dX5_changes_1 : decode cX5_changes 1 = .ok (.getfield 7, 3) := by decide +kernel
theorem dX5_changes_4 : decode cX5_changes 4 = .ok (.bipush 17, 2) := by decide +kernel
theorem dX5_changes_6 : decode cX5_changes 6 = .ok (.iload_n 1, 1) := by decide +kernel
theorem dX5_changes_7 : decode cX5_changes 7 = .ok (.iadd, 1) := by decide +kernel
theorem dX5_changes_8 : decode cX5_changes 8 = .ok (.laload, 1) := by decide +kernel
theorem dX5_changes_9 : decode cX5_changes 9 = .ok (.lstore_n 3, 1) := by decide +kernel
theorem dX5_changes_10 : decode cX5_changes 10 = .ok (.aload_n 0, 1) := by decide +kernel
theorem dX5_changes_11 : decode cX5_changes 11 = .ok (.getfield 7, 3) := by decide +kernel
theorem dX5_changes_14 : decode cX5_changes 14 = .ok (.bipush 17, 2) := by decide +kernel
theorem dX5_changes_16 : decode cX5_changes 16 = .ok (.iload_n 1, 1) := by decide +kernel
theorem dX5_changes_17 : decode cX5_changes 17 = .ok (.iadd, 1) := by decide +kernel
theorem dX5_changes_18 : decode cX5_changes 18 = .ok (.aload_n 0, 1) := by decide +kernel
theorem dX5_changes_19 : decode cX5_changes 19 = .ok (.getfield 7, 3) := by decide +kernel
theorem dX5_changes_22 : decode cX5_changes 22 = .ok (.bipush 17, 2) := by decide +kernel
theorem dX5_changes_24 : decode cX5_changes 24 = .ok (.iload_n 2, 1) := by decide +kernel
theorem dX5_changes_25 : decode cX5_changes 25 = .ok (.iadd, 1) := by decide +kernel
theorem dX5_changes_26 : decode cX5_changes 26 = .ok (.laload, 1) := by decide +kernel
theorem dX5_changes_27 : decode cX5_changes 27 = .ok (.lastore, 1) := by decide +kernel
theorem dX5_changes_28 : decode cX5_changes 28 = .ok (.aload_n 0, 1) := by decide +kernel
theorem dX5_changes_29 : decode cX5_changes 29 = .ok (.getfield 7, 3) := by decide +kernel
theorem dX5_changes_32 : decode cX5_changes 32 = .ok (.bipush 17, 2) := by decide +kernel
theorem dX5_changes_34 : decode cX5_changes 34 = .ok (.iload_n 2, 1) := by decide +kernel
theorem dX5_changes_35 : decode cX5_changes 35 = .ok (.iadd, 1) := by decide +kernel
theorem dX5_changes_36 : decode cX5_changes 36 = .ok (.lload_n 3, 1) := by decide +kernel
theorem dX5_changes_37 : decode cX5_changes 37 = .ok (.lastore, 1) := by decide +kernel
theorem dX5_changes_38 : decode cX5_changes 38 = .ok (.return_, 1) := by decide +kernel
theorem dX5_swapped_0 : decode cX5_swapped 0 = .ok (.iload_n 1, 1) := by decide +kernel
theorem dX5_swapped_1 : decode cX5_swapped 1 = .ok (.invokestatic 81, 3) := by decide +kernel
theorem dX5_swapped_4 : decode cX5_swapped 4 = .ok (.ifCond .eq 37, 3) := by decide +kernel
theorem dX5_swapped_7 : decode cX5_swapped 7 = .ok (.iload_n 2, 1) := by decide +kernel
theorem dX5_swapped_8 : decode cX5_swapped 8 = .ok (.i2l, 1) := by decide +kernel
theorem dX5_swapped_9 : decode cX5_swapped 9 = .ok (.lconst 0, 1) := by decide +kernel
theorem dX5_swapped_10 : decode cX5_swapped 10 = .ok (.aload_n 0, 1) := by decide +kernel
theorem dX5_swapped_11 : decode cX5_swapped 11 = .ok (.getfield 7, 3) := by decide +kernel
theorem dX5_swapped_14 : decode cX5_swapped 14 = .ok (.iconst 2, 1) := by decide +kernel
theorem dX5_swapped_15 : decode cX5_swapped 15 = .ok (.laload, 1) := by decide +kernel
theorem dX5_swapped_16 : decode cX5_swapped 16 = .ok (.lconst 1, 1) := by decide +kernel
theorem dX5_swapped_17 : decode cX5_swapped 17 = .ok (.lsub, 1) := by decide +kernel
theorem dX5_swapped_18 : decode cX5_swapped 18 = .ok (.invokestatic 43, 3) := by decide +kernel
theorem dX5_swapped_21 : decode cX5_swapped 21 = .ok (.ifCond .eq 20, 3) := by decide +kernel
theorem dX5_swapped_24 : decode cX5_swapped 24 = .ok (.iload_n 3, 1) := by decide +kernel
theorem dX5_swapped_25 : decode cX5_swapped 25 = .ok (.i2l, 1) := by decide +kernel
theorem dX5_swapped_26 : decode cX5_swapped 26 = .ok (.lconst 0, 1) := by decide +kernel
theorem dX5_swapped_27 : decode cX5_swapped 27 = .ok (.aload_n 0, 1) := by decide +kernel
theorem dX5_swapped_28 : decode cX5_swapped 28 = .ok (.getfield 7, 3) := by decide +kernel
theorem dX5_swapped_31 : decode cX5_swapped 31 = .ok (.iconst 2, 1) := by decide +kernel
theorem dX5_swapped_32 : decode cX5_swapped 32 = .ok (.laload, 1) := by decide +kernel
theorem dX5_swapped_33 : decode cX5_swapped 33 = .ok (.lconst 1, 1) := by decide +kernel
theorem dX5_swapped_34 : decode cX5_swapped 34 = .ok (.lsub, 1) := by decide +kernel
theorem dX5_swapped_35 : decode cX5_swapped 35 = .ok (.invokestatic 43, 3) := by decide +kernel
theorem dX5_swapped_38 : decode cX5_swapped 38 = .ok (.ifCond .ne 9, 3) := by decide +kernel
theorem dX5_swapped_41 : decode cX5_swapped 41 = .ok (.aload_n 0, 1) := by decide +kernel
theorem dX5_swapped_42 : decode cX5_swapped 42 = .ok (.iconst 1, 1) := by decide +kernel
theorem dX5_swapped_43 : decode cX5_swapped 43 = .ok (.invokevirtual 85, 3) := by decide +kernel
theorem dX5_swapped_46 : decode cX5_swapped 46 = .ok (.ireturn, 1) := by decide +kernel
theorem dX5_swapped_47 : decode cX5_swapped 47 = .ok (.aload_n 0, 1) := by decide +kernel
theorem dX5_swapped_48 : decode cX5_swapped 48 = .ok (.iload_n 2, 1) := by decide +kernel
theorem dX5_swapped_49 : decode cX5_swapped 49 = .ok (.iload_n 3, 1) := by decide +kernel
theorem dX5_swapped_50 : decode cX5_swapped 50 = .ok (.invokevirtual 154, 3) := by decide +kernel
theorem dX5_swapped_53 : decode cX5_swapped 53 = .ok (.aload_n 0, 1) := by decide +kernel
theorem dX5_swapped_54 : decode cX5_swapped 54 = .ok (.iload_n 1, 1) := by decide +kernel
theorem dX5_swapped_55 : decode cX5_swapped 55 = .ok (.iconst 1, 1) := by decide +kernel
theorem dX5_swapped_56 : decode cX5_swapped 56 = .ok (.invokevirtual 112, 3) := by decide +kernel
theorem dX5_swapped_59 : decode cX5_swapped 59 = .ok (.istore 4, 2) := by decide +kernel
theorem dX5_swapped_61 : decode cX5_swapped 61 = .ok (.aload_n 0, 1) := by decide +kernel
theorem dX5_swapped_62 : decode cX5_swapped 62 = .ok (.iload_n 2, 1) := by decide +kernel
theorem dX5_swapped_63 : decode cX5_swapped 63 = .ok (.iload_n 3, 1) := by decide +kernel
theorem dX5_swapped_64 : decode cX5_swapped 64 = .ok (.invokevirtual 154, 3) := by decide +kernel
theorem dX5_swapped_67 : decode cX5_swapped 67 = .ok (.aload_n 0, 1) := by decide +kernel
theorem dX5_swapped_68 : decode cX5_swapped 68 = .ok (.iload 4, 2) := by decide +kernel
theorem dX5_swapped_70 : decode cX5_swapped 70 = .ok (.invokevirtual 78, 3) := by decide +kernel
theorem dX5_swapped_73 : decode cX5_swapped 73 = .ok (.ireturn, 1) := by decide +kernel
theorem dX5_riseBy_0 : decode cX5_riseBy 0 = .ok (.iload_n 1, 1) := by decide +kernel
theorem dX5_riseBy_1 : decode cX5_riseBy 1 = .ok (.invokestatic 81, 3) := by decide +kernel
theorem dX5_riseBy_4 : decode cX5_riseBy 4 = .ok (.ifCond .ne 9, 3) := by decide +kernel
theorem dX5_riseBy_7 : decode cX5_riseBy 7 = .ok (.aload_n 0, 1) := by decide +kernel
theorem dX5_riseBy_8 : decode cX5_riseBy 8 = .ok (.iconst 1, 1) := by decide +kernel
theorem dX5_riseBy_9 : decode cX5_riseBy 9 = .ok (.invokevirtual 85, 3) := by decide +kernel
theorem dX5_riseBy_12 : decode cX5_riseBy 12 = .ok (.ireturn, 1) := by decide +kernel
theorem dX5_riseBy_13 : decode cX5_riseBy 13 = .ok (.iload_n 2, 1) := by decide +kernel
theorem dX5_riseBy_14 : decode cX5_riseBy 14 = .ok (.invokestatic 127, 3) := by decide +kernel
theorem dX5_riseBy_17 : decode cX5_riseBy 17 = .ok (.ifCond .eq 15, 3) := by decide +kernel
theorem dX5_riseBy_20 : decode cX5_riseBy 20 = .ok (.iload_n 3, 1) := by decide +kernel
theorem dX5_riseBy_21 : decode cX5_riseBy 21 = .ok (.i2l, 1) := by decide +kernel
theorem dX5_riseBy_22 : decode cX5_riseBy 22 = .ok (.lconst 0, 1) := by decide +kernel
theorem dX5_riseBy_23 : decode cX5_riseBy 23 = .ok (.ldc2_w 130, 3) := by decide +kernel
theorem dX5_riseBy_26 : decode cX5_riseBy 26 = .ok (.invokestatic 43, 3) := by decide +kernel
theorem dX5_riseBy_29 : decode cX5_riseBy 29 = .ok (.ifCond .ne 9, 3) := by decide +kernel
theorem dX5_riseBy_32 : decode cX5_riseBy 32 = .ok (.aload_n 0, 1) := by decide +kernel
theorem dX5_riseBy_33 : decode cX5_riseBy 33 = .ok (.iconst 2, 1) := by decide +kernel
theorem dX5_riseBy_34 : decode cX5_riseBy 34 = .ok (.invokevirtual 85, 3) := by decide +kernel
theorem dX5_riseBy_37 : decode cX5_riseBy 37 = .ok (.ireturn, 1) := by decide +kernel
theorem dX5_riseBy_38 : decode cX5_riseBy 38 = .ok (.aload_n 0, 1) := by decide +kernel
theorem dX5_riseBy_39 : decode cX5_riseBy 39 = .ok (.invokevirtual 158, 3) := by decide +kernel
theorem dX5_riseBy_42 : decode cX5_riseBy 42 = .ok (.aload_n 0, 1) := by decide +kernel
theorem dX5_riseBy_43 : decode cX5_riseBy 43 = .ok (.iload_n 2, 1) := by decide +kernel
theorem dX5_riseBy_44 : decode cX5_riseBy 44 = .ok (.iload_n 3, 1) := by decide +kernel
theorem dX5_riseBy_45 : decode cX5_riseBy 45 = .ok (.invokevirtual 132, 3) := by decide +kernel
theorem dX5_riseBy_48 : decode cX5_riseBy 48 = .ok (.istore 4, 2) := by decide +kernel
theorem dX5_riseBy_50 : decode cX5_riseBy 50 = .ok (.iload 4, 2) := by decide +kernel
theorem dX5_riseBy_52 : decode cX5_riseBy 52 = .ok (.ifCond .ne 7, 3) := by decide +kernel
theorem dX5_riseBy_55 : decode cX5_riseBy 55 = .ok (.iconst 0, 1) := by decide +kernel
theorem dX5_riseBy_56 : decode cX5_riseBy 56 = .ok (.goto 23, 3) := by decide +kernel
theorem dX5_riseBy_59 : decode cX5_riseBy 59 = .ok (.aload_n 0, 1) := by decide +kernel
theorem dX5_riseBy_60 : decode cX5_riseBy 60 = .ok (.getfield 7, 3) := by decide +kernel
theorem dX5_riseBy_63 : decode cX5_riseBy 63 = .ok (.bipush 13, 2) := by decide +kernel
theorem dX5_riseBy_65 : decode cX5_riseBy 65 = .ok (.iload_n 1, 1) := by decide +kernel
theorem dX5_riseBy_66 : decode cX5_riseBy 66 = .ok (.iadd, 1) := by decide +kernel
theorem dX5_riseBy_67 : decode cX5_riseBy 67 = .ok (.laload, 1) := by decide +kernel
theorem dX5_riseBy_68 : decode cX5_riseBy 68 = .ok (.aload_n 0, 1) := by decide +kernel
theorem dX5_riseBy_69 : decode cX5_riseBy 69 = .ok (.getfield 16, 3) := by decide +kernel
theorem dX5_riseBy_72 : decode cX5_riseBy 72 = .ok (.bipush 13, 2) := by decide +kernel
theorem dX5_riseBy_74 : decode cX5_riseBy 74 = .ok (.iload_n 1, 1) := by decide +kernel
theorem dX5_riseBy_75 : decode cX5_riseBy 75 = .ok (.iadd, 1) := by decide +kernel
theorem dX5_riseBy_76 : decode cX5_riseBy 76 = .ok (.laload, 1) := by decide +kernel
theorem dX5_riseBy_77 : decode cX5_riseBy 77 = .ok (.lsub, 1) := by decide +kernel
theorem dX5_riseBy_78 : decode cX5_riseBy 78 = .ok (.l2i, 1) := by decide +kernel
theorem dX5_riseBy_79 : decode cX5_riseBy 79 = .ok (.istore 5, 2) := by decide +kernel
theorem dX5_riseBy_81 : decode cX5_riseBy 81 = .ok (.aload_n 0, 1) := by decide +kernel
theorem dX5_riseBy_82 : decode cX5_riseBy 82 = .ok (.invokevirtual 161, 3) := by decide +kernel
theorem dX5_riseBy_85 : decode cX5_riseBy 85 = .ok (.aload_n 0, 1) := by decide +kernel
theorem dX5_riseBy_86 : decode cX5_riseBy 86 = .ok (.iload 5, 2) := by decide +kernel
theorem dX5_riseBy_88 : decode cX5_riseBy 88 = .ok (.invokevirtual 78, 3) := by decide +kernel
theorem dX5_riseBy_91 : decode cX5_riseBy 91 = .ok (.ireturn, 1) := by decide +kernel
theorem dX5_efficiency_0 : decode cX5_efficiency 0 = .ok (.aload_n 0, 1) := by decide +kernel
theorem dX5_efficiency_1 : decode cX5_efficiency 1 = .ok (.iconst 0, 1) := by decide +kernel
theorem dX5_efficiency_2 : decode cX5_efficiency 2 = .ok (.putfield 37, 3) := by decide +kernel
theorem dX5_efficiency_5 : decode cX5_efficiency 5 = .ok (.aload_n 0, 1) := by decide +kernel
theorem dX5_efficiency_6 : decode cX5_efficiency 6 = .ok (.getfield 7, 3) := by decide +kernel
theorem dX5_efficiency_9 : decode cX5_efficiency 9 = .ok (.bipush 7, 2) := by decide +kernel
theorem dX5_efficiency_11 : decode cX5_efficiency 11 = .ok (.laload, 1) := by decide +kernel
theorem dX5_efficiency_12 : decode cX5_efficiency 12 = .ok (.lconst 0, 1) := by decide +kernel
theorem dX5_efficiency_13 : decode cX5_efficiency 13 = .ok (.lcmp, 1) := by decide +kernel
theorem dX5_efficiency_14 : decode cX5_efficiency 14 = .ok (.ifCond .ne 7, 3) := by decide +kernel
theorem dX5_efficiency_17 : decode cX5_efficiency 17 = .ok (.dconst 0, 1) := by decide +kernel
theorem dX5_efficiency_18 : decode cX5_efficiency 18 = .ok (.goto 20, 3) := by decide +kernel
theorem dX5_efficiency_21 : decode cX5_efficiency 21 = .ok (.aload_n 0, 1) := by decide +kernel
theorem dX5_efficiency_22 : decode cX5_efficiency 22 = .ok (.getfield 7, 3) := by decide +kernel
theorem dX5_efficiency_25 : decode cX5_efficiency 25 = .ok (.bipush 8, 2) := by decide +kernel
theorem dX5_efficiency_27 : decode cX5_efficiency 27 = .ok (.laload, 1) := by decide +kernel
theorem dX5_efficiency_28 : decode cX5_efficiency 28 = .ok (.l2d, 1) := by decide +kernel
theorem dX5_efficiency_29 : decode cX5_efficiency 29 = .ok (.aload_n 0, 1) := by decide +kernel
theorem dX5_efficiency_30 : decode cX5_efficiency 30 = .ok (.getfield 7, 3) := by decide +kernel
theorem dX5_efficiency_33 : decode cX5_efficiency 33 = .ok (.bipush 7, 2) := by decide +kernel
theorem dX5_efficiency_35 : decode cX5_efficiency 35 = .ok (.laload, 1) := by decide +kernel
theorem dX5_efficiency_36 : decode cX5_efficiency 36 = .ok (.l2d, 1) := by decide +kernel
theorem dX5_efficiency_37 : decode cX5_efficiency 37 = .ok (.ddiv, 1) := by decide +kernel
theorem dX5_efficiency_38 : decode cX5_efficiency 38 = .ok (.dreturn, 1) := by decide +kernel
theorem dX5_append_0 : decode cX5_append 0 = .ok (.iload_n 1, 1) := by decide +kernel
theorem dX5_append_1 : decode cX5_append 1 = .ok (.i2l, 1) := by decide +kernel
theorem dX5_append_2 : decode cX5_append 2 = .ok (.lconst 0, 1) := by decide +kernel
theorem dX5_append_3 : decode cX5_append 3 = .ok (.ldc2_w 164, 3) := by decide +kernel
theorem dX5_append_6 : decode cX5_append 6 = .ok (.invokestatic 43, 3) := by decide +kernel
theorem dX5_append_9 : decode cX5_append 9 = .ok (.ifCond .ne 9, 3) := by decide +kernel
theorem dX5_append_12 : decode cX5_append 12 = .ok (.aload_n 0, 1) := by decide +kernel
theorem dX5_append_13 : decode cX5_append 13 = .ok (.iconst 1, 1) := by decide +kernel
theorem dX5_append_14 : decode cX5_append 14 = .ok (.invokevirtual 85, 3) := by decide +kernel
theorem dX5_append_17 : decode cX5_append 17 = .ok (.ireturn, 1) := by decide +kernel
theorem dX5_append_18 : decode cX5_append 18 = .ok (.aload_n 0, 1) := by decide +kernel
theorem dX5_append_19 : decode cX5_append 19 = .ok (.getfield 166, 3) := by decide +kernel
theorem dX5_append_22 : decode cX5_append 22 = .ok (.bipush 60, 2) := by decide +kernel
theorem dX5_append_24 : decode cX5_append 24 = .ok (.if_icmp .ne 9, 3) := by decide +kernel
theorem dX5_append_27 : decode cX5_append 27 = .ok (.aload_n 0, 1) := by decide +kernel
theorem dX5_append_28 : decode cX5_append 28 = .ok (.iconst 2, 1) := by decide +kernel
theorem dX5_append_29 : decode cX5_append 29 = .ok (.invokevirtual 85, 3) := by decide +kernel
theorem dX5_append_32 : decode cX5_append 32 = .ok (.ireturn, 1) := by decide +kernel
theorem dX5_append_33 : decode cX5_append 33 = .ok (.aload_n 0, 1) := by decide +kernel
theorem dX5_append_34 : decode cX5_append 34 = .ok (.getfield 19, 3) := by decide +kernel
theorem dX5_append_37 : decode cX5_append 37 = .ok (.aload_n 0, 1) := by decide +kernel
theorem dX5_append_38 : decode cX5_append 38 = .ok (.getfield 166, 3) := by decide +kernel
theorem dX5_append_41 : decode cX5_append 41 = .ok (.iload_n 1, 1) := by decide +kernel
theorem dX5_append_42 : decode cX5_append 42 = .ok (.iastore, 1) := by decide +kernel
theorem dX5_append_43 : decode cX5_append 43 = .ok (.aload_n 0, 1) := by decide +kernel
theorem dX5_append_44 : decode cX5_append 44 = .ok (.dup, 1) := by decide +kernel
theorem dX5_append_45 : decode cX5_append 45 = .ok (.getfield 166, 3) := by decide +kernel
theorem dX5_append_48 : decode cX5_append 48 = .ok (.iconst 1, 1) := by decide +kernel
theorem dX5_append_49 : decode cX5_append 49 = .ok (.iadd, 1) := by decide +kernel
theorem dX5_append_50 : decode cX5_append 50 = .ok (.putfield 166, 3) := by decide +kernel
theorem dX5_append_53 : decode cX5_append 53 = .ok (.aload_n 0, 1) := by decide +kernel
theorem dX5_append_54 : decode cX5_append 54 = .ok (.aload_n 0, 1) := by decide +kernel
theorem dX5_append_55 : decode cX5_append 55 = .ok (.getfield 166, 3) := by decide +kernel
theorem dX5_append_58 : decode cX5_append 58 = .ok (.invokevirtual 78, 3) := by decide +kernel
theorem dX5_append_61 : decode cX5_append 61 = .ok (.ireturn, 1) := by decide +kernel
theorem dX5_clearText_0 : decode cX5_clearText 0 = .ok (.aload_n 0, 1) := by decide +kernel
theorem dX5_clearText_1 : decode cX5_clearText 1 = .ok (.getfield 166, 3) := by decide +kernel
theorem dX5_clearText_4 : decode cX5_clearText 4 = .ok (.istore_n 1, 1) := by decide +kernel
theorem dX5_clearText_5 : decode cX5_clearText 5 = .ok (.aload_n 0, 1) := by decide +kernel
theorem dX5_clearText_6 : decode cX5_clearText 6 = .ok (.iconst 0, 1) := by decide +kernel
theorem dX5_clearText_7 : decode cX5_clearText 7 = .ok (.putfield 166, 3) := by decide +kernel
theorem dX5_clearText_10 : decode cX5_clearText 10 = .ok (.aload_n 0, 1) := by decide +kernel
theorem dX5_clearText_11 : decode cX5_clearText 11 = .ok (.iload_n 1, 1) := by decide +kernel
theorem dX5_clearText_12 : decode cX5_clearText 12 = .ok (.invokevirtual 78, 3) := by decide +kernel
theorem dX5_clearText_15 : decode cX5_clearText 15 = .ok (.ireturn, 1) := by decide +kernel
theorem dX5_isAt_0 : decode cX5_isAt 0 = .ok (.aload_n 0, 1) := by decide +kernel
theorem dX5_isAt_1 : decode cX5_isAt 1 = .ok (.getfield 169, 3) := by decide +kernel
theorem dX5_isAt_4 : decode cX5_isAt 4 = .ok (.aload_n 0, 1) := by decide +kernel
theorem dX5_isAt_5 : decode cX5_isAt 5 = .ok (.getfield 166, 3) := by decide +kernel
theorem dX5_isAt_8 : decode cX5_isAt 8 = .ok (.if_icmp .ge 27, 3) := by decide +kernel
theorem dX5_isAt_11 : decode cX5_isAt 11 = .ok (.aload_n 0, 1) := by decide +kernel
theorem dX5_isAt_12 : decode cX5_isAt 12 = .ok (.getfield 19, 3) := by decide +kernel
theorem dX5_isAt_15 : decode cX5_isAt 15 = .ok (.aload_n 0, 1) := by decide +kernel
theorem dX5_isAt_16 : decode cX5_isAt 16 = .ok (.getfield 169, 3) := by decide +kernel
theorem dX5_isAt_19 : decode cX5_isAt 19 = .ok (.iaload, 1) := by decide +kernel
theorem dX5_isAt_20 : decode cX5_isAt 20 = .ok (.i2l, 1) := by decide +kernel
theorem dX5_isAt_21 : decode cX5_isAt 21 = .ok (.iload_n 1, 1) := by decide +kernel
theorem dX5_isAt_22 : decode cX5_isAt 22 = .ok (.i2l, 1) := by decide +kernel
theorem dX5_isAt_23 : decode cX5_isAt 23 = .ok (.iload_n 2, 1) := by decide +kernel
theorem dX5_isAt_24 : decode cX5_isAt 24 = .ok (.i2l, 1) := by decide +kernel
theorem dX5_isAt_25 : decode cX5_isAt 25 = .ok (.invokestatic 43, 3) := by decide +kernel
theorem dX5_isAt_28 : decode cX5_isAt 28 = .ok (.ifCond .eq 7, 3) := by decide +kernel
theorem dX5_isAt_31 : decode cX5_isAt 31 = .ok (.iconst 1, 1) := by decide +kernel
theorem dX5_isAt_32 : decode cX5_isAt 32 = .ok (.goto 4, 3) := by decide +kernel
theorem dX5_isAt_35 : decode cX5_isAt 35 = .ok (.iconst 0, 1) := by decide +kernel
theorem dX5_isAt_36 : decode cX5_isAt 36 = .ok (.ireturn, 1) := by decide +kernel
theorem dX5_readsWeight_0 : decode cX5_readsWeight 0 = .ok (.aload_n 0, 1) := by decide +kernel
theorem dX5_readsWeight_1 : decode cX5_readsWeight 1 = .ok (.getfield 169, 3) := by decide +kernel
theorem dX5_readsWeight_4 : decode cX5_readsWeight 4 = .ok (.istore_n 1, 1) := by decide +kernel
theorem dX5_readsWeight_5 : decode cX5_readsWeight 5 = .ok (.iconst 0, 1) := by decide +kernel
theorem dX5_readsWeight_6 : decode cX5_readsWeight 6 = .ok (.istore_n 2, 1) := by decide +kernel
theorem dX5_readsWeight_7 : decode cX5_readsWeight 7 = .ok (.aload_n 0, 1) := by decide +kernel
theorem dX5_readsWeight_8 : decode cX5_readsWeight 8 = .ok (.bipush 48, 2) := by decide +kernel
theorem dX5_readsWeight_10 : decode cX5_readsWeight 10 = .ok (.bipush 57, 2) := by decide +kernel
theorem dX5_readsWeight_12 : decode cX5_readsWeight 12 = .ok (.invokevirtual 172, 3) := by decide +kernel
theorem dX5_readsWeight_15 : decode cX5_readsWeight 15 = .ok (.ifCond .eq 44, 3) := by decide +kernel
theorem dX5_readsWeight_18 : decode cX5_readsWeight 18 = .ok (.aload_n 0, 1) := by decide +kernel
theorem dX5_readsWeight_19 : decode cX5_readsWeight 19 = .ok (.getfield 169, 3) := by decide +kernel
theorem dX5_readsWeight_22 : decode cX5_readsWeight 22 = .ok (.iload_n 1, 1) := by decide +kernel
theorem dX5_readsWeight_23 : decode cX5_readsWeight 23 = .ok (.iconst 5, 1) := by decide +kernel
theorem dX5_readsWeight_24 : decode cX5_readsWeight 24 = .ok (.iadd, 1) := by decide +kernel
theorem dX5_readsWeight_25 : decode cX5_readsWeight 25 = .ok (.if_icmp .ge 34, 3) := by decide +kernel
theorem dX5_readsWeight_28 : decode cX5_readsWeight 28 = .ok (.bipush 10, 2) := by decide +kernel
theorem dX5_readsWeight_30 : decode cX5_readsWeight 30 = .ok (.iload_n 2, 1) := by decide +kernel
theorem dX5_readsWeight_31 : decode cX5_readsWeight 31 = .ok (.imul, 1) := by decide +kernel
theorem dX5_readsWeight_32 : decode cX5_readsWeight 32 = .ok (.aload_n 0, 1) := by decide +kernel
theorem dX5_readsWeight_33 : decode cX5_readsWeight 33 = .ok (.getfield 19, 3) := by decide +kernel
theorem dX5_readsWeight_36 : decode cX5_readsWeight 36 = .ok (.aload_n 0, 1) := by decide +kernel
theorem dX5_readsWeight_37 : decode cX5_readsWeight 37 = .ok (.getfield 169, 3) := by decide +kernel
theorem dX5_readsWeight_40 : decode cX5_readsWeight 40 = .ok (.iaload, 1) := by decide +kernel
theorem dX5_readsWeight_41 : decode cX5_readsWeight 41 = .ok (.iadd, 1) := by decide +kernel
theorem dX5_readsWeight_42 : decode cX5_readsWeight 42 = .ok (.bipush 48, 2) := by decide +kernel
theorem dX5_readsWeight_44 : decode cX5_readsWeight 44 = .ok (.isub, 1) := by decide +kernel
theorem dX5_readsWeight_45 : decode cX5_readsWeight 45 = .ok (.istore_n 2, 1) := by decide +kernel
theorem dX5_readsWeight_46 : decode cX5_readsWeight 46 = .ok (.aload_n 0, 1) := by decide +kernel
theorem dX5_readsWeight_47 : decode cX5_readsWeight 47 = .ok (.dup, 1) := by decide +kernel
theorem dX5_readsWeight_48 : decode cX5_readsWeight 48 = .ok (.getfield 169, 3) := by decide +kernel
theorem dX5_readsWeight_51 : decode cX5_readsWeight 51 = .ok (.iconst 1, 1) := by decide +kernel
theorem dX5_readsWeight_52 : decode cX5_readsWeight 52 = .ok (.iadd, 1) := by decide +kernel
theorem dX5_readsWeight_53 : decode cX5_readsWeight 53 = .ok (.putfield 169, 3) := by decide +kernel
theorem dX5_readsWeight_56 : decode cX5_readsWeight 56 = .ok (.goto (-49), 3) := by decide +kernel
theorem dX5_readsWeight_59 : decode cX5_readsWeight 59 = .ok (.aload_n 0, 1) := by decide +kernel
theorem dX5_readsWeight_60 : decode cX5_readsWeight 60 = .ok (.getfield 169, 3) := by decide +kernel
theorem dX5_readsWeight_63 : decode cX5_readsWeight 63 = .ok (.iload_n 1, 1) := by decide +kernel
theorem dX5_readsWeight_64 : decode cX5_readsWeight 64 = .ok (.if_icmp .eq 14, 3) := by decide +kernel
theorem dX5_readsWeight_67 : decode cX5_readsWeight 67 = .ok (.aload_n 0, 1) := by decide +kernel
theorem dX5_readsWeight_68 : decode cX5_readsWeight 68 = .ok (.bipush 48, 2) := by decide +kernel
theorem dX5_readsWeight_70 : decode cX5_readsWeight 70 = .ok (.bipush 57, 2) := by decide +kernel
theorem dX5_readsWeight_72 : decode cX5_readsWeight 72 = .ok (.invokevirtual 172, 3) := by decide +kernel
theorem dX5_readsWeight_75 : decode cX5_readsWeight 75 = .ok (.ifCond .eq 5, 3) := by decide +kernel
theorem dX5_readsWeight_78 : decode cX5_readsWeight 78 = .ok (.iconst 0, 1) := by decide +kernel
theorem dX5_readsWeight_79 : decode cX5_readsWeight 79 = .ok (.ireturn, 1) := by decide +kernel
theorem dX5_readsWeight_80 : decode cX5_readsWeight 80 = .ok (.aload_n 0, 1) := by decide +kernel
theorem dX5_readsWeight_81 : decode cX5_readsWeight 81 = .ok (.getfield 26, 3) := by decide +kernel
theorem dX5_readsWeight_84 : decode cX5_readsWeight 84 = .ok (.aload_n 0, 1) := by decide +kernel
theorem dX5_readsWeight_85 : decode cX5_readsWeight 85 = .ok (.getfield 176, 3) := by decide +kernel
theorem dX5_readsWeight_88 : decode cX5_readsWeight 88 = .ok (.iload_n 2, 1) := by decide +kernel
theorem dX5_readsWeight_89 : decode cX5_readsWeight 89 = .ok (.iastore, 1) := by decide +kernel
theorem dX5_readsWeight_90 : decode cX5_readsWeight 90 = .ok (.aload_n 0, 1) := by decide +kernel
theorem dX5_readsWeight_91 : decode cX5_readsWeight 91 = .ok (.dup, 1) := by decide +kernel
theorem dX5_readsWeight_92 : decode cX5_readsWeight 92 = .ok (.getfield 176, 3) := by decide +kernel
theorem dX5_readsWeight_95 : decode cX5_readsWeight 95 = .ok (.iconst 1, 1) := by decide +kernel
theorem dX5_readsWeight_96 : decode cX5_readsWeight 96 = .ok (.iadd, 1) := by decide +kernel
theorem dX5_readsWeight_97 : decode cX5_readsWeight 97 = .ok (.putfield 176, 3) := by decide +kernel
theorem dX5_readsWeight_100 : decode cX5_readsWeight 100 = .ok (.aload_n 0, 1) := by decide +kernel
theorem dX5_readsWeight_101 : decode cX5_readsWeight 101 = .ok (.iload_n 2, 1) := by decide +kernel
theorem dX5_readsWeight_102 : decode cX5_readsWeight 102 = .ok (.ldc 179, 2) := by decide +kernel
theorem dX5_readsWeight_104 : decode cX5_readsWeight 104 = .ok (.if_icmp .le 7, 3) := by decide +kernel
theorem dX5_readsWeight_107 : decode cX5_readsWeight 107 = .ok (.iload_n 1, 1) := by decide +kernel
theorem dX5_readsWeight_108 : decode cX5_readsWeight 108 = .ok (.goto 7, 3) := by decide +kernel
theorem dX5_readsWeight_111 : decode cX5_readsWeight 111 = .ok (.aload_n 0, 1) := by decide +kernel
theorem dX5_readsWeight_112 : decode cX5_readsWeight 112 = .ok (.getfield 169, 3) := by decide +kernel
theorem dX5_readsWeight_115 : decode cX5_readsWeight 115 = .ok (.putfield 169, 3) := by decide +kernel
theorem dX5_readsWeight_118 : decode cX5_readsWeight 118 = .ok (.iload_n 2, 1) := by decide +kernel
theorem dX5_readsWeight_119 : decode cX5_readsWeight 119 = .ok (.ldc 179, 2) := by decide +kernel
theorem dX5_readsWeight_121 : decode cX5_readsWeight 121 = .ok (.if_icmp .gt 7, 3) := by decide +kernel
theorem dX5_readsWeight_124 : decode cX5_readsWeight 124 = .ok (.iconst 1, 1) := by decide +kernel
theorem dX5_readsWeight_125 : decode cX5_readsWeight 125 = .ok (.goto 4, 3) := by decide +kernel
theorem dX5_readsWeight_128 : decode cX5_readsWeight 128 = .ok (.iconst 0, 1) := by decide +kernel
theorem dX5_readsWeight_129 : decode cX5_readsWeight 129 = .ok (.ireturn, 1) := by decide +kernel
theorem dX5_reads_0 : decode cX5_reads 0 = .ok (.aload_n 0, 1) := by decide +kernel
theorem dX5_reads_1 : decode cX5_reads 1 = .ok (.iconst 0, 1) := by decide +kernel
theorem dX5_reads_2 : decode cX5_reads 2 = .ok (.putfield 169, 3) := by decide +kernel
theorem dX5_reads_5 : decode cX5_reads 5 = .ok (.aload_n 0, 1) := by decide +kernel
theorem dX5_reads_6 : decode cX5_reads 6 = .ok (.iconst 0, 1) := by decide +kernel
theorem dX5_reads_7 : decode cX5_reads 7 = .ok (.putfield 180, 3) := by decide +kernel
theorem dX5_reads_10 : decode cX5_reads 10 = .ok (.aload_n 0, 1) := by decide +kernel
theorem dX5_reads_11 : decode cX5_reads 11 = .ok (.iconst 0, 1) := by decide +kernel
theorem dX5_reads_12 : decode cX5_reads 12 = .ok (.putfield 176, 3) := by decide +kernel
theorem dX5_reads_15 : decode cX5_reads 15 = .ok (.aload_n 0, 1) := by decide +kernel
theorem dX5_reads_16 : decode cX5_reads 16 = .ok (.getfield 180, 3) := by decide +kernel
theorem dX5_reads_19 : decode cX5_reads 19 = .ok (.bipush 10, 2) := by decide +kernel
theorem dX5_reads_21 : decode cX5_reads 21 = .ok (.if_icmp .ge 58, 3) := by decide +kernel
theorem dX5_reads_24 : decode cX5_reads 24 = .ok (.aload_n 0, 1) := by decide +kernel
theorem dX5_reads_25 : decode cX5_reads 25 = .ok (.bipush 48, 2) := by decide +kernel
theorem dX5_reads_27 : decode cX5_reads 27 = .ok (.bipush 51, 2) := by decide +kernel
theorem dX5_reads_29 : decode cX5_reads 29 = .ok (.invokevirtual 172, 3) := by decide +kernel
theorem dX5_reads_32 : decode cX5_reads 32 = .ok (.ifCond .eq 47, 3) := by decide +kernel
theorem dX5_reads_35 : decode cX5_reads 35 = .ok (.aload_n 0, 1) := by decide +kernel
theorem dX5_reads_36 : decode cX5_reads 36 = .ok (.getfield 23, 3) := by decide +kernel
theorem dX5_reads_39 : decode cX5_reads 39 = .ok (.aload_n 0, 1) := by decide +kernel
theorem dX5_reads_40 : decode cX5_reads 40 = .ok (.getfield 180, 3) := by decide +kernel
theorem dX5_reads_43 : decode cX5_reads 43 = .ok (.aload_n 0, 1) := by decide +kernel
theorem dX5_reads_44 : decode cX5_reads 44 = .ok (.getfield 19, 3) := by decide +kernel
theorem dX5_reads_47 : decode cX5_reads 47 = .ok (.aload_n 0, 1) := by decide +kernel
theorem dX5_reads_48 : decode cX5_reads 48 = .ok (.getfield 169, 3) := by decide +kernel
theorem dX5_reads_51 : decode cX5_reads 51 = .ok (.iaload, 1) := by decide +kernel
theorem dX5_reads_52 : decode cX5_reads 52 = .ok (.bipush 48, 2) := by decide +kernel
theorem dX5_reads_54 : decode cX5_reads 54 = .ok (.isub, 1) := by decide +kernel
theorem dX5_reads_55 : decode cX5_reads 55 = .ok (.iastore, 1) := by decide +kernel
theorem dX5_reads_56 : decode cX5_reads 56 = .ok (.aload_n 0, 1) := by decide +kernel
theorem dX5_reads_57 : decode cX5_reads 57 = .ok (.dup, 1) := by decide +kernel
theorem dX5_reads_58 : decode cX5_reads 58 = .ok (.getfield 180, 3) := by decide +kernel
theorem dX5_reads_61 : decode cX5_reads 61 = .ok (.iconst 1, 1) := by decide +kernel
theorem dX5_reads_62 : decode cX5_reads 62 = .ok (.iadd, 1) := by decide +kernel
theorem dX5_reads_63 : decode cX5_reads 63 = .ok (.putfield 180, 3) := by decide +kernel
theorem dX5_reads_66 : decode cX5_reads 66 = .ok (.aload_n 0, 1) := by decide +kernel
theorem dX5_reads_67 : decode cX5_reads 67 = .ok (.dup, 1) := by decide +kernel
theorem dX5_reads_68 : decode cX5_reads 68 = .ok (.getfield 169, 3) := by decide +kernel
theorem dX5_reads_71 : decode cX5_reads 71 = .ok (.iconst 1, 1) := by decide +kernel
theorem dX5_reads_72 : decode cX5_reads 72 = .ok (.iadd, 1) := by decide +kernel
theorem dX5_reads_73 : decode cX5_reads 73 = .ok (.putfield 169, 3) := by decide +kernel
theorem dX5_reads_76 : decode cX5_reads 76 = .ok (.goto (-61), 3) := by decide +kernel
theorem dX5_reads_79 : decode cX5_reads 79 = .ok (.aload_n 0, 1) := by decide +kernel
theorem dX5_reads_80 : decode cX5_reads 80 = .ok (.bipush 46, 2) := by decide +kernel
theorem dX5_reads_82 : decode cX5_reads 82 = .ok (.bipush 46, 2) := by decide +kernel
theorem dX5_reads_84 : decode cX5_reads 84 = .ok (.invokevirtual 172, 3) := by decide +kernel
theorem dX5_reads_87 : decode cX5_reads 87 = .ok (.ifCond .ne 5, 3) := by decide +kernel
theorem dX5_reads_90 : decode cX5_reads 90 = .ok (.iconst 0, 1) := by decide +kernel
theorem dX5_reads_91 : decode cX5_reads 91 = .ok (.ireturn, 1) := by decide +kernel
theorem dX5_reads_92 : decode cX5_reads 92 = .ok (.aload_n 0, 1) := by decide +kernel
theorem dX5_reads_93 : decode cX5_reads 93 = .ok (.dup, 1) := by decide +kernel
theorem dX5_reads_94 : decode cX5_reads 94 = .ok (.getfield 169, 3) := by decide +kernel
theorem dX5_reads_97 : decode cX5_reads 97 = .ok (.iconst 1, 1) := by decide +kernel
theorem dX5_reads_98 : decode cX5_reads 98 = .ok (.iadd, 1) := by decide +kernel
theorem dX5_reads_99 : decode cX5_reads 99 = .ok (.putfield 169, 3) := by decide +kernel
theorem dX5_reads_102 : decode cX5_reads 102 = .ok (.aload_n 0, 1) := by decide +kernel
theorem dX5_reads_103 : decode cX5_reads 103 = .ok (.bipush 48, 2) := by decide +kernel
theorem dX5_reads_105 : decode cX5_reads 105 = .ok (.bipush 52, 2) := by decide +kernel
theorem dX5_reads_107 : decode cX5_reads 107 = .ok (.invokevirtual 172, 3) := by decide +kernel
theorem dX5_reads_110 : decode cX5_reads 110 = .ok (.ifCond .ne 5, 3) := by decide +kernel
theorem dX5_reads_113 : decode cX5_reads 113 = .ok (.iconst 0, 1) := by decide +kernel
theorem dX5_reads_114 : decode cX5_reads 114 = .ok (.ireturn, 1) := by decide +kernel
theorem dX5_reads_115 : decode cX5_reads 115 = .ok (.aload_n 0, 1) := by decide +kernel
theorem dX5_reads_116 : decode cX5_reads 116 = .ok (.aload_n 0, 1) := by decide +kernel
theorem dX5_reads_117 : decode cX5_reads 117 = .ok (.getfield 19, 3) := by decide +kernel
theorem dX5_reads_120 : decode cX5_reads 120 = .ok (.aload_n 0, 1) := by decide +kernel
theorem dX5_reads_121 : decode cX5_reads 121 = .ok (.getfield 169, 3) := by decide +kernel
theorem dX5_reads_124 : decode cX5_reads 124 = .ok (.iaload, 1) := by decide +kernel
theorem dX5_reads_125 : decode cX5_reads 125 = .ok (.bipush 48, 2) := by decide +kernel
theorem dX5_reads_127 : decode cX5_reads 127 = .ok (.isub, 1) := by decide +kernel
theorem dX5_reads_128 : decode cX5_reads 128 = .ok (.putfield 183, 3) := by decide +kernel
theorem dX5_reads_131 : decode cX5_reads 131 = .ok (.aload_n 0, 1) := by decide +kernel
theorem dX5_reads_132 : decode cX5_reads 132 = .ok (.dup, 1) := by decide +kernel
theorem dX5_reads_133 : decode cX5_reads 133 = .ok (.getfield 169, 3) := by decide +kernel
theorem dX5_reads_136 : decode cX5_reads 136 = .ok (.iconst 1, 1) := by decide +kernel
theorem dX5_reads_137 : decode cX5_reads 137 = .ok (.iadd, 1) := by decide +kernel
theorem dX5_reads_138 : decode cX5_reads 138 = .ok (.putfield 169, 3) := by decide +kernel
theorem dX5_reads_141 : decode cX5_reads 141 = .ok (.iconst 1, 1) := by decide +kernel
theorem dX5_reads_142 : decode cX5_reads 142 = .ok (.istore_n 1, 1) := by decide +kernel
theorem dX5_reads_143 : decode cX5_reads 143 = .ok (.iload_n 1, 1) := by decide +kernel
theorem dX5_reads_144 : decode cX5_reads 144 = .ok (.ifCond .eq 40, 3) := by decide +kernel
theorem dX5_reads_147 : decode cX5_reads 147 = .ok (.aload_n 0, 1) := by decide +kernel
theorem dX5_reads_148 : decode cX5_reads 148 = .ok (.getfield 176, 3) := by decide +kernel
theorem dX5_reads_151 : decode cX5_reads 151 = .ok (.iconst 4, 1) := by decide +kernel
theorem dX5_reads_152 : decode cX5_reads 152 = .ok (.if_icmp .ge 32, 3) := by decide +kernel
theorem dX5_reads_155 : decode cX5_reads 155 = .ok (.aload_n 0, 1) := by decide +kernel
theorem dX5_reads_156 : decode cX5_reads 156 = .ok (.bipush 44, 2) := by decide +kernel
theorem dX5_reads_158 : decode cX5_reads 158 = .ok (.bipush 44, 2) := by decide +kernel
theorem dX5_reads_160 : decode cX5_reads 160 = .ok (.invokevirtual 172, 3) := by decide +kernel
theorem dX5_reads_163 : decode cX5_reads 163 = .ok (.ifCond .eq 21, 3) := by decide +kernel
theorem dX5_reads_166 : decode cX5_reads 166 = .ok (.aload_n 0, 1) := by decide +kernel
theorem dX5_reads_167 : decode cX5_reads 167 = .ok (.dup, 1) := by decide +kernel
theorem dX5_reads_168 : decode cX5_reads 168 = .ok (.getfield 169, 3) := by decide +kernel
theorem dX5_reads_171 : decode cX5_reads 171 = .ok (.iconst 1, 1) := by decide +kernel
theorem dX5_reads_172 : decode cX5_reads 172 = .ok (.iadd, 1) := by decide +kernel
theorem dX5_reads_173 : decode cX5_reads 173 = .ok (.putfield 169, 3) := by decide +kernel
theorem dX5_reads_176 : decode cX5_reads 176 = .ok (.aload_n 0, 1) := by decide +kernel
theorem dX5_reads_177 : decode cX5_reads 177 = .ok (.invokevirtual 186, 3) := by decide +kernel
theorem dX5_reads_180 : decode cX5_reads 180 = .ok (.istore_n 1, 1) := by decide +kernel
theorem dX5_reads_181 : decode cX5_reads 181 = .ok (.goto (-38), 3) := by decide +kernel
theorem dX5_reads_184 : decode cX5_reads 184 = .ok (.iload_n 1, 1) := by decide +kernel
theorem dX5_reads_185 : decode cX5_reads 185 = .ok (.ifCond .eq 18, 3) := by decide +kernel
theorem dX5_reads_188 : decode cX5_reads 188 = .ok (.aload_n 0, 1) := by decide +kernel
theorem dX5_reads_189 : decode cX5_reads 189 = .ok (.getfield 169, 3) := by decide +kernel
theorem dX5_reads_192 : decode cX5_reads 192 = .ok (.aload_n 0, 1) := by decide +kernel
theorem dX5_reads_193 : decode cX5_reads 193 = .ok (.getfield 166, 3) := by decide +kernel
theorem dX5_reads_196 : decode cX5_reads 196 = .ok (.if_icmp .ne 7, 3) := by decide +kernel
theorem dX5_reads_199 : decode cX5_reads 199 = .ok (.iconst 1, 1) := by decide +kernel
theorem dX5_reads_200 : decode cX5_reads 200 = .ok (.goto 4, 3) := by decide +kernel
theorem dX5_reads_203 : decode cX5_reads 203 = .ok (.iconst 0, 1) := by decide +kernel
theorem dX5_reads_204 : decode cX5_reads 204 = .ok (.ireturn, 1) := by decide +kernel
theorem dX5_parse_0 : decode cX5_parse 0 = .ok (.aload_n 0, 1) := by decide +kernel
theorem dX5_parse_1 : decode cX5_parse 1 = .ok (.invokevirtual 190, 3) := by decide +kernel
theorem dX5_parse_4 : decode cX5_parse 4 = .ok (.ifCond .ne 15, 3) := by decide +kernel
theorem dX5_parse_7 : decode cX5_parse 7 = .ok (.aload_n 0, 1) := by decide +kernel
theorem dX5_parse_8 : decode cX5_parse 8 = .ok (.bipush (-10), 2) := by decide +kernel
theorem dX5_parse_10 : decode cX5_parse 10 = .ok (.aload_n 0, 1) := by decide +kernel
theorem dX5_parse_11 : decode cX5_parse 11 = .ok (.getfield 169, 3) := by decide +kernel
theorem dX5_parse_14 : decode cX5_parse 14 = .ok (.isub, 1) := by decide +kernel
theorem dX5_parse_15 : decode cX5_parse 15 = .ok (.invokevirtual 78, 3) := by decide +kernel
theorem dX5_parse_18 : decode cX5_parse 18 = .ok (.ireturn, 1) := by decide +kernel
theorem dX5_parse_19 : decode cX5_parse 19 = .ok (.aload_n 0, 1) := by decide +kernel
theorem dX5_parse_20 : decode cX5_parse 20 = .ok (.getfield 7, 3) := by decide +kernel
theorem dX5_parse_23 : decode cX5_parse 23 = .ok (.iconst 0, 1) := by decide +kernel
theorem dX5_parse_24 : decode cX5_parse 24 = .ok (.laload, 1) := by decide +kernel
theorem dX5_parse_25 : decode cX5_parse 25 = .ok (.l2i, 1) := by decide +kernel
theorem dX5_parse_26 : decode cX5_parse 26 = .ok (.sipush 10000, 3) := by decide +kernel
theorem dX5_parse_29 : decode cX5_parse 29 = .ok (.iconst 2, 1) := by decide +kernel
theorem dX5_parse_30 : decode cX5_parse 30 = .ok (.aload_n 0, 1) := by decide +kernel
theorem dX5_parse_31 : decode cX5_parse 31 = .ok (.getfield 180, 3) := by decide +kernel
theorem dX5_parse_34 : decode cX5_parse 34 = .ok (.imul, 1) := by decide +kernel
theorem dX5_parse_35 : decode cX5_parse 35 = .ok (.aload_n 0, 1) := by decide +kernel
theorem dX5_parse_36 : decode cX5_parse 36 = .ok (.getfield 183, 3) := by decide +kernel
theorem dX5_parse_39 : decode cX5_parse 39 = .ok (.iconst 4, 1) := by decide +kernel
theorem dX5_parse_40 : decode cX5_parse 40 = .ok (.if_icmp .ne 7, 3) := by decide +kernel
theorem dX5_parse_43 : decode cX5_parse 43 = .ok (.iconst 0, 1) := by decide +kernel
theorem dX5_parse_44 : decode cX5_parse 44 = .ok (.goto 4, 3) := by decide +kernel
theorem dX5_parse_47 : decode cX5_parse 47 = .ok (.iconst 1, 1) := by decide +kernel
theorem dX5_parse_48 : decode cX5_parse 48 = .ok (.iadd, 1) := by decide +kernel
theorem dX5_parse_49 : decode cX5_parse 49 = .ok (.imul, 1) := by decide +kernel
theorem dX5_parse_50 : decode cX5_parse 50 = .ok (.isub, 1) := by decide +kernel
theorem dX5_parse_51 : decode cX5_parse 51 = .ok (.istore_n 1, 1) := by decide +kernel
theorem dX5_parse_52 : decode cX5_parse 52 = .ok (.iload_n 1, 1) := by decide +kernel
theorem dX5_parse_53 : decode cX5_parse 53 = .ok (.ifCond .ge 9, 3) := by decide +kernel
theorem dX5_parse_56 : decode cX5_parse 56 = .ok (.aload_n 0, 1) := by decide +kernel
theorem dX5_parse_57 : decode cX5_parse 57 = .ok (.iconst (-1), 1) := by decide +kernel
theorem dX5_parse_58 : decode cX5_parse 58 = .ok (.invokevirtual 78, 3) := by decide +kernel
theorem dX5_parse_61 : decode cX5_parse 61 = .ok (.ireturn, 1) := by decide +kernel
theorem dX5_parse_62 : decode cX5_parse 62 = .ok (.aload_n 0, 1) := by decide +kernel
theorem dX5_parse_63 : decode cX5_parse 63 = .ok (.invokevirtual 75, 3) := by decide +kernel
theorem dX5_parse_66 : decode cX5_parse 66 = .ok (.aload_n 0, 1) := by decide +kernel
theorem dX5_parse_67 : decode cX5_parse 67 = .ok (.getfield 7, 3) := by decide +kernel
theorem dX5_parse_70 : decode cX5_parse 70 = .ok (.iconst 2, 1) := by decide +kernel
theorem dX5_parse_71 : decode cX5_parse 71 = .ok (.aload_n 0, 1) := by decide +kernel
theorem dX5_parse_72 : decode cX5_parse 72 = .ok (.getfield 180, 3) := by decide +kernel
theorem dX5_parse_75 : decode cX5_parse 75 = .ok (.i2l, 1) := by decide +kernel
theorem dX5_parse_76 : decode cX5_parse 76 = .ok (.lastore, 1) := by decide +kernel
theorem dX5_parse_77 : decode cX5_parse 77 = .ok (.aload_n 0, 1) := by decide +kernel
theorem dX5_parse_78 : decode cX5_parse 78 = .ok (.getfield 7, 3) := by decide +kernel
theorem dX5_parse_81 : decode cX5_parse 81 = .ok (.iconst 3, 1) := by decide +kernel
theorem dX5_parse_82 : decode cX5_parse 82 = .ok (.aload_n 0, 1) := by decide +kernel
theorem dX5_parse_83 : decode cX5_parse 83 = .ok (.getfield 183, 3) := by decide +kernel
theorem dX5_parse_86 : decode cX5_parse 86 = .ok (.i2l, 1) := by decide +kernel
theorem dX5_parse_87 : decode cX5_parse 87 = .ok (.lastore, 1) := by decide +kernel
theorem dX5_parse_88 : decode cX5_parse 88 = .ok (.iconst 0, 1) := by decide +kernel
theorem dX5_parse_89 : decode cX5_parse 89 = .ok (.istore_n 2, 1) := by decide +kernel
theorem dX5_parse_90 : decode cX5_parse 90 = .ok (.iload_n 2, 1) := by decide +kernel
theorem dX5_parse_91 : decode cX5_parse 91 = .ok (.aload_n 0, 1) := by decide +kernel
theorem dX5_parse_92 : decode cX5_parse 92 = .ok (.getfield 180, 3) := by decide +kernel
theorem dX5_parse_95 : decode cX5_parse 95 = .ok (.if_icmp .ge 25, 3) := by decide +kernel
theorem dX5_parse_98 : decode cX5_parse 98 = .ok (.aload_n 0, 1) := by decide +kernel
theorem dX5_parse_99 : decode cX5_parse 99 = .ok (.getfield 7, 3) := by decide +kernel
theorem dX5_parse_102 : decode cX5_parse 102 = .ok (.bipush 17, 2) := by decide +kernel
theorem dX5_parse_104 : decode cX5_parse 104 = .ok (.iload_n 2, 1) := by decide +kernel
theorem dX5_parse_105 : decode cX5_parse 105 = .ok (.iadd, 1) := by decide +kernel
theorem dX5_parse_106 : decode cX5_parse 106 = .ok (.aload_n 0, 1) := by decide +kernel
theorem dX5_parse_107 : decode cX5_parse 107 = .ok (.getfield 23, 3) := by decide +kernel
theorem dX5_parse_110 : decode cX5_parse 110 = .ok (.iload_n 2, 1) := by decide +kernel
theorem dX5_parse_111 : decode cX5_parse 111 = .ok (.iaload, 1) := by decide +kernel
theorem dX5_parse_112 : decode cX5_parse 112 = .ok (.i2l, 1) := by decide +kernel
theorem dX5_parse_113 : decode cX5_parse 113 = .ok (.lastore, 1) := by decide +kernel
theorem dX5_parse_114 : decode cX5_parse 114 = .ok (.iinc 2 1, 3) := by decide +kernel
theorem dX5_parse_117 : decode cX5_parse 117 = .ok (.goto (-27), 3) := by decide +kernel
theorem dX5_parse_120 : decode cX5_parse 120 = .ok (.iconst 0, 1) := by decide +kernel
theorem dX5_parse_121 : decode cX5_parse 121 = .ok (.istore_n 2, 1) := by decide +kernel
theorem dX5_parse_122 : decode cX5_parse 122 = .ok (.iload_n 2, 1) := by decide +kernel
theorem dX5_parse_123 : decode cX5_parse 123 = .ok (.iconst 4, 1) := by decide +kernel
theorem dX5_parse_124 : decode cX5_parse 124 = .ok (.if_icmp .ge 55, 3) := by decide +kernel
theorem dX5_parse_127 : decode cX5_parse 127 = .ok (.aload_n 0, 1) := by decide +kernel
theorem dX5_parse_128 : decode cX5_parse 128 = .ok (.getfield 7, 3) := by decide +kernel
theorem dX5_parse_131 : decode cX5_parse 131 = .ok (.bipush 13, 2) := by decide +kernel
theorem dX5_parse_133 : decode cX5_parse 133 = .ok (.iload_n 2, 1) := by decide +kernel
theorem dX5_parse_134 : decode cX5_parse 134 = .ok (.iadd, 1) := by decide +kernel
theorem dX5_parse_135 : decode cX5_parse 135 = .ok (.lconst 0, 1) := by decide +kernel
theorem dX5_parse_136 : decode cX5_parse 136 = .ok (.lastore, 1) := by decide +kernel
theorem dX5_parse_137 : decode cX5_parse 137 = .ok (.aload_n 0, 1) := by decide +kernel
theorem dX5_parse_138 : decode cX5_parse 138 = .ok (.getfield 7, 3) := by decide +kernel
theorem dX5_parse_141 : decode cX5_parse 141 = .ok (.bipush 9, 2) := by decide +kernel
theorem dX5_parse_143 : decode cX5_parse 143 = .ok (.iload_n 2, 1) := by decide +kernel
theorem dX5_parse_144 : decode cX5_parse 144 = .ok (.iadd, 1) := by decide +kernel
theorem dX5_parse_145 : decode cX5_parse 145 = .ok (.iload_n 2, 1) := by decide +kernel
theorem dX5_parse_146 : decode cX5_parse 146 = .ok (.aload_n 0, 1) := by decide +kernel
theorem dX5_parse_147 : decode cX5_parse 147 = .ok (.getfield 176, 3) := by decide +kernel
theorem dX5_parse_150 : decode cX5_parse 150 = .ok (.if_icmp .ge 13, 3) := by decide +kernel
theorem dX5_parse_153 : decode cX5_parse 153 = .ok (.aload_n 0, 1) := by decide +kernel
theorem dX5_parse_154 : decode cX5_parse 154 = .ok (.getfield 26, 3) := by decide +kernel
theorem dX5_parse_157 : decode cX5_parse 157 = .ok (.iload_n 2, 1) := by decide +kernel
theorem dX5_parse_158 : decode cX5_parse 158 = .ok (.iaload, 1) := by decide +kernel
theorem dX5_parse_159 : decode cX5_parse 159 = .ok (.i2l, 1) := by decide +kernel
theorem dX5_parse_160 : decode cX5_parse 160 = .ok (.goto 12, 3) := by decide +kernel
theorem dX5_parse_163 : decode cX5_parse 163 = .ok (.aload_n 0, 1) := by decide +kernel
theorem dX5_parse_164 : decode cX5_parse 164 = .ok (.getfield 7, 3) := by decide +kernel
theorem dX5_parse_167 : decode cX5_parse 167 = .ok (.bipush 9, 2) := by decide +kernel
theorem dX5_parse_169 : decode cX5_parse 169 = .ok (.iload_n 2, 1) := by decide +kernel
theorem dX5_parse_170 : decode cX5_parse 170 = .ok (.iadd, 1) := by decide +kernel
theorem dX5_parse_171 : decode cX5_parse 171 = .ok (.laload, 1) := by decide +kernel
theorem dX5_parse_172 : decode cX5_parse 172 = .ok (.lastore, 1) := by decide +kernel
theorem dX5_parse_173 : decode cX5_parse 173 = .ok (.iinc 2 1, 3) := by decide +kernel
theorem dX5_parse_176 : decode cX5_parse 176 = .ok (.goto (-54), 3) := by decide +kernel
theorem dX5_parse_179 : decode cX5_parse 179 = .ok (.aload_n 0, 1) := by decide +kernel
theorem dX5_parse_180 : decode cX5_parse 180 = .ok (.iload_n 1, 1) := by decide +kernel
theorem dX5_parse_181 : decode cX5_parse 181 = .ok (.invokevirtual 78, 3) := by decide +kernel
theorem dX5_parse_184 : decode cX5_parse 184 = .ok (.ireturn, 1) := by decide +kernel
theorem dX5_undo_0 : decode cX5_undo 0 = .ok (.aload_n 0, 1) := by decide +kernel
theorem dX5_undo_1 : decode cX5_undo 1 = .ok (.getfield 49, 3) := by decide +kernel
theorem dX5_undo_4 : decode cX5_undo 4 = .ok (.ifCond .ne 9, 3) := by decide +kernel
theorem dX5_undo_7 : decode cX5_undo 7 = .ok (.aload_n 0, 1) := by decide +kernel
theorem dX5_undo_8 : decode cX5_undo 8 = .ok (.iconst 1, 1) := by decide +kernel
theorem dX5_undo_9 : decode cX5_undo 9 = .ok (.invokevirtual 85, 3) := by decide +kernel
theorem dX5_undo_12 : decode cX5_undo 12 = .ok (.ireturn, 1) := by decide +kernel
theorem dX5_undo_13 : decode cX5_undo 13 = .ok (.aload_n 0, 1) := by decide +kernel
theorem dX5_undo_14 : decode cX5_undo 14 = .ok (.dup, 1) := by decide +kernel
theorem dX5_undo_15 : decode cX5_undo 15 = .ok (.getfield 49, 3) := by decide +kernel
theorem dX5_undo_18 : decode cX5_undo 18 = .ok (.iconst 1, 1) := by decide +kernel
theorem dX5_undo_19 : decode cX5_undo 19 = .ok (.isub, 1) := by decide +kernel
theorem dX5_undo_20 : decode cX5_undo 20 = .ok (.putfield 49, 3) := by decide +kernel
theorem dX5_undo_23 : decode cX5_undo 23 = .ok (.iconst 0, 1) := by decide +kernel
theorem dX5_undo_24 : decode cX5_undo 24 = .ok (.istore_n 1, 1) := by decide +kernel
theorem dX5_undo_25 : decode cX5_undo 25 = .ok (.iload_n 1, 1) := by decide +kernel
theorem dX5_undo_26 : decode cX5_undo 26 = .ok (.bipush 75, 2) := by decide +kernel
theorem dX5_undo_28 : decode cX5_undo 28 = .ok (.if_icmp .ge 29, 3) := by decide +kernel
theorem dX5_undo_31 : decode cX5_undo 31 = .ok (.aload_n 0, 1) := by decide +kernel
theorem dX5_undo_32 : decode cX5_undo 32 = .ok (.getfield 7, 3) := by decide +kernel
theorem dX5_undo_35 : decode cX5_undo 35 = .ok (.iload_n 1, 1) := by decide +kernel
theorem dX5_undo_36 : decode cX5_undo 36 = .ok (.aload_n 0, 1) := by decide +kernel
theorem dX5_undo_37 : decode cX5_undo 37 = .ok (.getfield 13, 3) := by decide +kernel
theorem dX5_undo_40 : decode cX5_undo 40 = .ok (.bipush 75, 2) := by decide +kernel
theorem dX5_undo_42 : decode cX5_undo 42 = .ok (.aload_n 0, 1) := by decide +kernel
theorem dX5_undo_43 : decode cX5_undo 43 = .ok (.getfield 49, 3) := by decide +kernel
theorem dX5_undo_46 : decode cX5_undo 46 = .ok (.imul, 1) := by decide +kernel
theorem dX5_undo_47 : decode cX5_undo 47 = .ok (.iload_n 1, 1) := by decide +kernel
theorem dX5_undo_48 : decode cX5_undo 48 = .ok (.iadd, 1) := by decide +kernel
theorem dX5_undo_49 : decode cX5_undo 49 = .ok (.laload, 1) := by decide +kernel
theorem dX5_undo_50 : decode cX5_undo 50 = .ok (.lastore, 1) := by decide +kernel
theorem dX5_undo_51 : decode cX5_undo 51 = .ok (.iinc 1 1, 3) := by decide +kernel
theorem dX5_undo_54 : decode cX5_undo 54 = .ok (.goto (-29), 3) := by decide +kernel
theorem dX5_undo_57 : decode cX5_undo 57 = .ok (.aload_n 0, 1) := by decide +kernel
theorem dX5_undo_58 : decode cX5_undo 58 = .ok (.aload_n 0, 1) := by decide +kernel
theorem dX5_undo_59 : decode cX5_undo 59 = .ok (.getfield 49, 3) := by decide +kernel
theorem dX5_undo_62 : decode cX5_undo 62 = .ok (.invokevirtual 78, 3) := by decide +kernel
theorem dX5_undo_65 : decode cX5_undo 65 = .ok (.ireturn, 1) := by decide +kernel
theorem dX5_mix_0 : decode cX5_mix 0 = .ok (.aload_n 0, 1) := by decide +kernel
theorem dX5_mix_1 : decode cX5_mix 1 = .ok (.ldc2_w 193, 3) := by decide +kernel
theorem dX5_mix_4 : decode cX5_mix 4 = .ok (.aload_n 0, 1) := by decide +kernel
theorem dX5_mix_5 : decode cX5_mix 5 = .ok (.getfield 195, 3) := by decide +kernel
theorem dX5_mix_8 : decode cX5_mix 8 = .ok (.lmul, 1) := by decide +kernel
theorem dX5_mix_9 : decode cX5_mix 9 = .ok (.lload_n 1, 1) := by decide +kernel
theorem dX5_mix_10 : decode cX5_mix 10 = .ok (.ladd, 1) := by decide +kernel
theorem dX5_mix_11 : decode cX5_mix 11 = .ok (.putfield 195, 3) := by decide +kernel
theorem dX5_mix_14 : decode cX5_mix 14 = .ok (.return_, 1) := by decide +kernel
theorem dX5_digest_0 : decode cX5_digest 0 = .ok (.aload_n 0, 1) := by decide +kernel
theorem dX5_digest_1 : decode cX5_digest 1 = .ok (.iconst 0, 1) := by decide +kernel
theorem dX5_digest_2 : decode cX5_digest 2 = .ok (.putfield 37, 3) := by decide +kernel
theorem dX5_digest_5 : decode cX5_digest 5 = .ok (.aload_n 0, 1) := by decide +kernel
theorem dX5_digest_6 : decode cX5_digest 6 = .ok (.ldc2_w 199, 3) := by decide +kernel
theorem dX5_digest_9 : decode cX5_digest 9 = .ok (.putfield 195, 3) := by decide +kernel
theorem dX5_digest_12 : decode cX5_digest 12 = .ok (.aload_n 0, 1) := by decide +kernel
theorem dX5_digest_13 : decode cX5_digest 13 = .ok (.aload_n 0, 1) := by decide +kernel
theorem dX5_digest_14 : decode cX5_digest 14 = .ok (.getfield 166, 3) := by decide +kernel
theorem dX5_digest_17 : decode cX5_digest 17 = .ok (.i2l, 1) := by decide +kernel
theorem dX5_digest_18 : decode cX5_digest 18 = .ok (.invokevirtual 201, 3) := by decide +kernel
theorem dX5_digest_21 : decode cX5_digest 21 = .ok (.iconst 0, 1) := by decide +kernel
theorem dX5_digest_22 : decode cX5_digest 22 = .ok (.istore_n 1, 1) := by decide +kernel
theorem dX5_digest_23 : decode cX5_digest 23 = .ok (.iload_n 1, 1) := by decide +kernel
theorem dX5_digest_24 : decode cX5_digest 24 = .ok (.bipush 10, 2) := by decide +kernel
theorem dX5_digest_26 : decode cX5_digest 26 = .ok (.if_icmp .ge 19, 3) := by decide +kernel
theorem dX5_digest_29 : decode cX5_digest 29 = .ok (.aload_n 0, 1) := by decide +kernel
theorem dX5_digest_30 : decode cX5_digest 30 = .ok (.aload_n 0, 1) := by decide +kernel
theorem dX5_digest_31 : decode cX5_digest 31 = .ok (.iload_n 1, 1) := by decide +kernel
theorem dX5_digest_32 : decode cX5_digest 32 = .ok (.invokevirtual 151, 3) := by decide +kernel
theorem dX5_digest_35 : decode cX5_digest 35 = .ok (.i2l, 1) := by decide +kernel
theorem dX5_digest_36 : decode cX5_digest 36 = .ok (.invokevirtual 201, 3) := by decide +kernel
theorem dX5_digest_39 : decode cX5_digest 39 = .ok (.iinc 1 1, 3) := by decide +kernel
theorem dX5_digest_42 : decode cX5_digest 42 = .ok (.goto (-19), 3) := by decide +kernel
theorem dX5_digest_45 : decode cX5_digest 45 = .ok (.aload_n 0, 1) := by decide +kernel
theorem dX5_digest_46 : decode cX5_digest 46 = .ok (.aload_n 0, 1) := by decide +kernel
theorem dX5_digest_47 : decode cX5_digest 47 = .ok (.getfield 7, 3) := by decide +kernel
theorem dX5_digest_50 : decode cX5_digest 50 = .ok (.bipush 7, 2) := by decide +kernel
theorem dX5_digest_52 : decode cX5_digest 52 = .ok (.laload, 1) := by decide +kernel
theorem dX5_digest_53 : decode cX5_digest 53 = .ok (.invokevirtual 201, 3) := by decide +kernel
theorem dX5_digest_56 : decode cX5_digest 56 = .ok (.aload_n 0, 1) := by decide +kernel
theorem dX5_digest_57 : decode cX5_digest 57 = .ok (.aload_n 0, 1) := by decide +kernel
theorem dX5_digest_58 : decode cX5_digest 58 = .ok (.getfield 7, 3) := by decide +kernel
theorem dX5_digest_61 : decode cX5_digest 61 = .ok (.bipush 8, 2) := by decide +kernel
theorem dX5_digest_63 : decode cX5_digest 63 = .ok (.laload, 1) := by decide +kernel
theorem dX5_digest_64 : decode cX5_digest 64 = .ok (.invokevirtual 201, 3) := by decide +kernel
theorem dX5_digest_67 : decode cX5_digest 67 = .ok (.iconst 0, 1) := by decide +kernel
theorem dX5_digest_68 : decode cX5_digest 68 = .ok (.istore_n 1, 1) := by decide +kernel
theorem dX5_digest_69 : decode cX5_digest 69 = .ok (.iload_n 1, 1) := by decide +kernel
theorem dX5_digest_70 : decode cX5_digest 70 = .ok (.bipush 28, 2) := by decide +kernel
theorem dX5_digest_72 : decode cX5_digest 72 = .ok (.if_icmp .ge 26, 3) := by decide +kernel
theorem dX5_digest_75 : decode cX5_digest 75 = .ok (.aload_n 0, 1) := by decide +kernel
theorem dX5_digest_76 : decode cX5_digest 76 = .ok (.aload_n 0, 1) := by decide +kernel
theorem dX5_digest_77 : decode cX5_digest 77 = .ok (.iload_n 1, 1) := by decide +kernel
theorem dX5_digest_78 : decode cX5_digest 78 = .ok (.bipush 7, 2) := by decide +kernel
theorem dX5_digest_80 : decode cX5_digest 80 = .ok (.idiv, 1) := by decide +kernel
theorem dX5_digest_81 : decode cX5_digest 81 = .ok (.iload_n 1, 1) := by decide +kernel
theorem dX5_digest_82 : decode cX5_digest 82 = .ok (.bipush 7, 2) := by decide +kernel
theorem dX5_digest_84 : decode cX5_digest 84 = .ok (.irem, 1) := by decide +kernel
theorem dX5_digest_85 : decode cX5_digest 85 = .ok (.invokevirtual 140, 3) := by decide +kernel
theorem dX5_digest_88 : decode cX5_digest 88 = .ok (.i2l, 1) := by decide +kernel
theorem dX5_digest_89 : decode cX5_digest 89 = .ok (.invokevirtual 201, 3) := by decide +kernel
theorem dX5_digest_92 : decode cX5_digest 92 = .ok (.iinc 1 1, 3) := by decide +kernel
theorem dX5_digest_95 : decode cX5_digest 95 = .ok (.goto (-26), 3) := by decide +kernel
theorem dX5_digest_98 : decode cX5_digest 98 = .ok (.iconst 0, 1) := by decide +kernel
theorem dX5_digest_99 : decode cX5_digest 99 = .ok (.istore_n 1, 1) := by decide +kernel
theorem dX5_digest_100 : decode cX5_digest 100 = .ok (.iload_n 1, 1) := by decide +kernel
theorem dX5_digest_101 : decode cX5_digest 101 = .ok (.i2l, 1) := by decide +kernel
theorem dX5_digest_102 : decode cX5_digest 102 = .ok (.aload_n 0, 1) := by decide +kernel
theorem dX5_digest_103 : decode cX5_digest 103 = .ok (.getfield 7, 3) := by decide +kernel
theorem dX5_digest_106 : decode cX5_digest 106 = .ok (.iconst 2, 1) := by decide +kernel
theorem dX5_digest_107 : decode cX5_digest 107 = .ok (.laload, 1) := by decide +kernel
theorem dX5_digest_108 : decode cX5_digest 108 = .ok (.lcmp, 1) := by decide +kernel
theorem dX5_digest_109 : decode cX5_digest 109 = .ok (.ifCond .ge 22, 3) := by decide +kernel
theorem dX5_digest_112 : decode cX5_digest 112 = .ok (.aload_n 0, 1) := by decide +kernel
theorem dX5_digest_113 : decode cX5_digest 113 = .ok (.aload_n 0, 1) := by decide +kernel
theorem dX5_digest_114 : decode cX5_digest 114 = .ok (.getfield 7, 3) := by decide +kernel
theorem dX5_digest_117 : decode cX5_digest 117 = .ok (.bipush 17, 2) := by decide +kernel
theorem dX5_digest_119 : decode cX5_digest 119 = .ok (.iload_n 1, 1) := by decide +kernel
theorem dX5_digest_120 : decode cX5_digest 120 = .ok (.iadd, 1) := by decide +kernel
theorem dX5_digest_121 : decode cX5_digest 121 = .ok (.laload, 1) := by decide +kernel
theorem dX5_digest_122 : decode cX5_digest 122 = .ok (.invokevirtual 201, 3) := by decide +kernel
theorem dX5_digest_125 : decode cX5_digest 125 = .ok (.iinc 1 1, 3) := by decide +kernel
theorem dX5_digest_128 : decode cX5_digest 128 = .ok (.goto (-28), 3) := by decide +kernel
theorem dX5_digest_131 : decode cX5_digest 131 = .ok (.iconst 0, 1) := by decide +kernel
theorem dX5_digest_132 : decode cX5_digest 132 = .ok (.istore_n 1, 1) := by decide +kernel
theorem dX5_digest_133 : decode cX5_digest 133 = .ok (.iload_n 1, 1) := by decide +kernel
theorem dX5_digest_134 : decode cX5_digest 134 = .ok (.i2l, 1) := by decide +kernel
theorem dX5_digest_135 : decode cX5_digest 135 = .ok (.ldc2_w 41, 3) := by decide +kernel
theorem dX5_digest_138 : decode cX5_digest 138 = .ok (.aload_n 0, 1) := by decide +kernel
theorem dX5_digest_139 : decode cX5_digest 139 = .ok (.getfield 7, 3) := by decide +kernel
theorem dX5_digest_142 : decode cX5_digest 142 = .ok (.bipush 6, 2) := by decide +kernel
theorem dX5_digest_144 : decode cX5_digest 144 = .ok (.laload, 1) := by decide +kernel
theorem dX5_digest_145 : decode cX5_digest 145 = .ok (.lmul, 1) := by decide +kernel
theorem dX5_digest_146 : decode cX5_digest 146 = .ok (.lcmp, 1) := by decide +kernel
theorem dX5_digest_147 : decode cX5_digest 147 = .ok (.ifCond .ge 22, 3) := by decide +kernel
theorem dX5_digest_150 : decode cX5_digest 150 = .ok (.aload_n 0, 1) := by decide +kernel
theorem dX5_digest_151 : decode cX5_digest 151 = .ok (.aload_n 0, 1) := by decide +kernel
theorem dX5_digest_152 : decode cX5_digest 152 = .ok (.getfield 7, 3) := by decide +kernel
theorem dX5_digest_155 : decode cX5_digest 155 = .ok (.bipush 27, 2) := by decide +kernel
theorem dX5_digest_157 : decode cX5_digest 157 = .ok (.iload_n 1, 1) := by decide +kernel
theorem dX5_digest_158 : decode cX5_digest 158 = .ok (.iadd, 1) := by decide +kernel
theorem dX5_digest_159 : decode cX5_digest 159 = .ok (.laload, 1) := by decide +kernel
theorem dX5_digest_160 : decode cX5_digest 160 = .ok (.invokevirtual 201, 3) := by decide +kernel
theorem dX5_digest_163 : decode cX5_digest 163 = .ok (.iinc 1 1, 3) := by decide +kernel
theorem dX5_digest_166 : decode cX5_digest 166 = .ok (.goto (-33), 3) := by decide +kernel
theorem dX5_digest_169 : decode cX5_digest 169 = .ok (.aload_n 0, 1) := by decide +kernel
theorem dX5_digest_170 : decode cX5_digest 170 = .ok (.aload_n 0, 1) := by decide +kernel
theorem dX5_digest_171 : decode cX5_digest 171 = .ok (.getfield 49, 3) := by decide +kernel
theorem dX5_digest_174 : decode cX5_digest 174 = .ok (.i2l, 1) := by decide +kernel
theorem dX5_digest_175 : decode cX5_digest 175 = .ok (.invokevirtual 201, 3) := by decide +kernel
theorem dX5_digest_178 : decode cX5_digest 178 = .ok (.aload_n 0, 1) := by decide +kernel
theorem dX5_digest_179 : decode cX5_digest 179 = .ok (.getfield 195, 3) := by decide +kernel
theorem dX5_digest_182 : decode cX5_digest 182 = .ok (.lreturn, 1) := by decide +kernel
