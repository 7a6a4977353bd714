theorem dX0_init_0 : decode cX0_init 0 = .ok (.aload_n 0, 1) := by decide +kernel
theorem dX0_init_1 : decode cX0_init 1 = .ok (.invokespecial 3, 3) := by decide +kernel
theorem dX0_init_4 : decode cX0_init 4 = .ok (.aload_n 0, 1) := by decide +kernel
theorem dX0_init_5 : decode cX0_init 5 = .ok (.bipush 48, 2) := by decide +kernel
theorem dX0_init_7 : decode cX0_init 7 = .ok (.newarray .int, 2) := by decide +kernel
theorem dX0_init_9 : decode cX0_init 9 = .ok (.putfield 9, 3) := by decide +kernel
theorem dX0_init_12 : decode cX0_init 12 = .ok (.aload_n 0, 1) := by decide +kernel
theorem dX0_init_13 : decode cX0_init 13 = .ok (.iconst 0, 1) := by decide +kernel
theorem dX0_init_14 : decode cX0_init 14 = .ok (.putfield 15, 3) := by decide +kernel
theorem dX0_init_17 : decode cX0_init 17 = .ok (.aload_n 0, 1) := by decide +kernel
theorem dX0_init_18 : decode cX0_init 18 = .ok (.iconst 0, 1) := by decide +kernel
theorem dX0_init_19 : decode cX0_init 19 = .ok (.putfield 19, 3) := by decide +kernel
theorem dX0_init_22 : decode cX0_init 22 = .ok (.aload_n 0, 1) := by decide +kernel
theorem dX0_init_23 : decode cX0_init 23 = .ok (.iconst 0, 1) := by decide +kernel
theorem dX0_init_24 : decode cX0_init 24 = .ok (.putfield 22, 3) := by decide +kernel
theorem dX0_init_27 : decode cX0_init 27 = .ok (.aload_n 0, 1) := by decide +kernel
theorem dX0_init_28 : decode cX0_init 28 = .ok (.iconst 0, 1) := by decide +kernel
theorem dX0_init_29 : decode cX0_init 29 = .ok (.putfield 25, 3) := by decide +kernel
theorem dX0_init_32 : decode cX0_init 32 = .ok (.aload_n 0, 1) := by decide +kernel
theorem dX0_init_33 : decode cX0_init 33 = .ok (.lconst 0, 1) := by decide +kernel
theorem dX0_init_34 : decode cX0_init 34 = .ok (.putfield 28, 3) := by decide +kernel
theorem dX0_init_37 : decode cX0_init 37 = .ok (.aload_n 0, 1) := by decide +kernel
theorem dX0_init_38 : decode cX0_init 38 = .ok (.lconst 0, 1) := by decide +kernel
theorem dX0_init_39 : decode cX0_init 39 = .ok (.putfield 32, 3) := by decide +kernel
theorem dX0_init_42 : decode cX0_init 42 = .ok (.return_, 1) := by decide +kernel
theorem dX0_copyFrom_0 : decode cX0_copyFrom 0 = .ok (.aload_n 1, 1) := by decide +kernel
theorem dX0_copyFrom_1 : decode cX0_copyFrom 1 = .ok (.getfield 9, 3) := by decide +kernel
theorem dX0_copyFrom_4 : decode cX0_copyFrom 4 = .ok (.aload_n 0, 1) := by decide +kernel
theorem dX0_copyFrom_5 : decode cX0_copyFrom 5 = .ok (.getfield 9, 3) := by decide +kernel
theorem dX0_copyFrom_8 : decode cX0_copyFrom 8 = .ok (.invokestatic 35, 3) := by decide +kernel
theorem dX0_copyFrom_11 : decode cX0_copyFrom 11 = .ok (.aload_n 0, 1) := by decide +kernel
theorem dX0_copyFrom_12 : decode cX0_copyFrom 12 = .ok (.aload_n 1, 1) := by decide +kernel
theorem dX0_copyFrom_13 : decode cX0_copyFrom 13 = .ok (.getfield 15, 3) := by decide +kernel
theorem dX0_copyFrom_16 : decode cX0_copyFrom 16 = .ok (.putfield 15, 3) := by decide +kernel
theorem dX0_copyFrom_19 : decode cX0_copyFrom 19 = .ok (.aload_n 0, 1) := by decide +kernel
theorem dX0_copyFrom_20 : decode cX0_copyFrom 20 = .ok (.aload_n 1, 1) := by decide +kernel
theorem dX0_copyFrom_21 : decode cX0_copyFrom 21 = .ok (.getfield 19, 3) := by decide +kernel
theorem dX0_copyFrom_24 : decode cX0_copyFrom 24 = .ok (.putfield 19, 3) := by decide +kernel
theorem dX0_copyFrom_27 : decode cX0_copyFrom 27 = .ok (.aload_n 0, 1) := by decide +kernel
theorem dX0_copyFrom_28 : decode cX0_copyFrom 28 = .ok (.aload_n 1, 1) := by decide +kernel
theorem dX0_copyFrom_29 : decode cX0_copyFrom 29 = .ok (.getfield 22, 3) := by decide +kernel
theorem dX0_copyFrom_32 : decode cX0_copyFrom 32 = .ok (.putfield 22, 3) := by decide +kernel
theorem dX0_copyFrom_35 : decode cX0_copyFrom 35 = .ok (.aload_n 0, 1) := by decide +kernel
theorem dX0_copyFrom_36 : decode cX0_copyFrom 36 = .ok (.aload_n 1, 1) := by decide +kernel
theorem dX0_copyFrom_37 : decode cX0_copyFrom 37 = .ok (.getfield 25, 3) := by decide +kernel
theorem dX0_copyFrom_40 : decode cX0_copyFrom 40 = .ok (.putfield 25, 3) := by decide +kernel
theorem dX0_copyFrom_43 : decode cX0_copyFrom 43 = .ok (.aload_n 0, 1) := by decide +kernel
theorem dX0_copyFrom_44 : decode cX0_copyFrom 44 = .ok (.aload_n 1, 1) := by decide +kernel
theorem dX0_copyFrom_45 : decode cX0_copyFrom 45 = .ok (.getfield 28, 3) := by decide +kernel
theorem dX0_copyFrom_48 : decode cX0_copyFrom 48 = .ok (.putfield 28, 3) := by decide +kernel
theorem dX0_copyFrom_51 : decode cX0_copyFrom 51 = .ok (.aload_n 0, 1) := by decide +kernel
theorem dX0_copyFrom_52 : decode cX0_copyFrom 52 = .ok (.aload_n 1, 1) := by decide +kernel
theorem dX0_copyFrom_53 : decode cX0_copyFrom 53 = .ok (.getfield 32, 3) := by decide +kernel
theorem dX0_copyFrom_56 : decode cX0_copyFrom 56 = .ok (.putfield 32, 3) := by decide +kernel
theorem dX0_copyFrom_59 : decode cX0_copyFrom 59 = .ok (.return_, 1) := by decide +kernel
theorem dX0_note_0 : decode cX0_note 0 = .ok (.iload_n 2, 1) := by decide +kernel
theorem dX0_note_1 : decode cX0_note 1 = .ok (.ifCond .le 16, 3) := by decide +kernel
theorem dX0_note_4 : decode cX0_note 4 = .ok (.aload_n 0, 1) := by decide +kernel
theorem dX0_note_5 : decode cX0_note 5 = .ok (.dup, 1) := by decide +kernel
theorem dX0_note_6 : decode cX0_note 6 = .ok (.getfield 22, 3) := by decide +kernel
theorem dX0_note_9 : decode cX0_note 9 = .ok (.iconst 1, 1) := by decide +kernel
theorem dX0_note_10 : decode cX0_note 10 = .ok (.iadd, 1) := by decide +kernel
theorem dX0_note_11 : decode cX0_note 11 = .ok (.putfield 22, 3) := by decide +kernel
theorem dX0_note_14 : decode cX0_note 14 = .ok (.goto 13, 3) := by decide +kernel
theorem dX0_note_17 : decode cX0_note 17 = .ok (.aload_n 0, 1) := by decide +kernel
theorem dX0_note_18 : decode cX0_note 18 = .ok (.dup, 1) := by decide +kernel
theorem dX0_note_19 : decode cX0_note 19 = .ok (.getfield 25, 3) := by decide +kernel
theorem dX0_note_22 : decode cX0_note 22 = .ok (.iconst 1, 1) := by decide +kernel
theorem dX0_note_23 : decode cX0_note 23 = .ok (.iadd, 1) := by decide +kernel
theorem dX0_note_24 : decode cX0_note 24 = .ok (.putfield 25, 3) := by decide +kernel
theorem dX0_note_27 : decode cX0_note 27 = .ok (.aload_n 0, 1) := by decide +kernel
theorem dX0_note_28 : decode cX0_note 28 = .ok (.aload_n 0, 1) := by decide +kernel
theorem dX0_note_29 : decode cX0_note 29 = .ok (.getfield 15, 3) := by decide +kernel
theorem dX0_note_32 : decode cX0_note 32 = .ok (.iconst 1, 1) := by decide +kernel
theorem dX0_note_33 : decode cX0_note 33 = .ok (.iadd, 1) := by decide +kernel
theorem dX0_note_34 : decode cX0_note 34 = .ok (.bipush 16, 2) := by decide +kernel
theorem dX0_note_36 : decode cX0_note 36 = .ok (.invokestatic 39, 3) := by decide +kernel
theorem dX0_note_39 : decode cX0_note 39 = .ok (.putfield 15, 3) := by decide +kernel
theorem dX0_note_42 : decode cX0_note 42 = .ok (.aload_n 0, 1) := by decide +kernel
theorem dX0_note_43 : decode cX0_note 43 = .ok (.getfield 9, 3) := by decide +kernel
theorem dX0_note_46 : decode cX0_note 46 = .ok (.aload_n 0, 1) := by decide +kernel
theorem dX0_note_47 : decode cX0_note 47 = .ok (.getfield 15, 3) := by decide +kernel
theorem dX0_note_50 : decode cX0_note 50 = .ok (.iconst 3, 1) := by decide +kernel
theorem dX0_note_51 : decode cX0_note 51 = .ok (.imul, 1) := by decide +kernel
theorem dX0_note_52 : decode cX0_note 52 = .ok (.iload_n 1, 1) := by decide +kernel
theorem dX0_note_53 : decode cX0_note 53 = .ok (.invokestatic 45, 3) := by decide +kernel
theorem dX0_note_56 : decode cX0_note 56 = .ok (.aload_n 0, 1) := by decide +kernel
theorem dX0_note_57 : decode cX0_note 57 = .ok (.getfield 9, 3) := by decide +kernel
theorem dX0_note_60 : decode cX0_note 60 = .ok (.aload_n 0, 1) := by decide +kernel
theorem dX0_note_61 : decode cX0_note 61 = .ok (.getfield 15, 3) := by decide +kernel
theorem dX0_note_64 : decode cX0_note 64 = .ok (.iconst 3, 1) := by decide +kernel
theorem dX0_note_65 : decode cX0_note 65 = .ok (.imul, 1) := by decide +kernel
theorem dX0_note_66 : decode cX0_note 66 = .ok (.iconst 1, 1) := by decide +kernel
theorem dX0_note_67 : decode cX0_note 67 = .ok (.iadd, 1) := by decide +kernel
theorem dX0_note_68 : decode cX0_note 68 = .ok (.iload_n 2, 1) := by decide +kernel
theorem dX0_note_69 : decode cX0_note 69 = .ok (.invokestatic 45, 3) := by decide +kernel
theorem dX0_note_72 : decode cX0_note 72 = .ok (.aload_n 0, 1) := by decide +kernel
theorem dX0_note_73 : decode cX0_note 73 = .ok (.getfield 9, 3) := by decide +kernel
theorem dX0_note_76 : decode cX0_note 76 = .ok (.aload_n 0, 1) := by decide +kernel
theorem dX0_note_77 : decode cX0_note 77 = .ok (.getfield 15, 3) := by decide +kernel
theorem dX0_note_80 : decode cX0_note 80 = .ok (.iconst 3, 1) := by decide +kernel
theorem dX0_note_81 : decode cX0_note 81 = .ok (.imul, 1) := by decide +kernel
theorem dX0_note_82 : decode cX0_note 82 = .ok (.iconst 2, 1) := by decide +kernel
theorem dX0_note_83 : decode cX0_note 83 = .ok (.iadd, 1) := by decide +kernel
theorem dX0_note_84 : decode cX0_note 84 = .ok (.iload_n 3, 1) := by decide +kernel
theorem dX0_note_85 : decode cX0_note 85 = .ok (.invokestatic 45, 3) := by decide +kernel
theorem dX0_note_88 : decode cX0_note 88 = .ok (.aload_n 0, 1) := by decide +kernel
theorem dX0_note_89 : decode cX0_note 89 = .ok (.aload_n 0, 1) := by decide +kernel
theorem dX0_note_90 : decode cX0_note 90 = .ok (.getfield 19, 3) := by decide +kernel
theorem dX0_note_93 : decode cX0_note 93 = .ok (.iconst 1, 1) := by decide +kernel
theorem dX0_note_94 : decode cX0_note 94 = .ok (.iadd, 1) := by decide +kernel
theorem dX0_note_95 : decode cX0_note 95 = .ok (.bipush 16, 2) := by decide +kernel
theorem dX0_note_97 : decode cX0_note 97 = .ok (.invokestatic 49, 3) := by decide +kernel
theorem dX0_note_100 : decode cX0_note 100 = .ok (.putfield 19, 3) := by decide +kernel
theorem dX0_note_103 : decode cX0_note 103 = .ok (.return_, 1) := by decide +kernel
theorem dX0_part_0 : decode cX0_part 0 = .ok (.aload_n 0, 1) := by decide +kernel
theorem dX0_part_1 : decode cX0_part 1 = .ok (.getfield 9, 3) := by decide +kernel
theorem dX0_part_4 : decode cX0_part 4 = .ok (.aload_n 0, 1) := by decide +kernel
theorem dX0_part_5 : decode cX0_part 5 = .ok (.getfield 15, 3) := by decide +kernel
theorem dX0_part_8 : decode cX0_part 8 = .ok (.iload_n 1, 1) := by decide +kernel
theorem dX0_part_9 : decode cX0_part 9 = .ok (.isub, 1) := by decide +kernel
theorem dX0_part_10 : decode cX0_part 10 = .ok (.bipush 16, 2) := by decide +kernel
theorem dX0_part_12 : decode cX0_part 12 = .ok (.invokestatic 39, 3) := by decide +kernel
theorem dX0_part_15 : decode cX0_part 15 = .ok (.iconst 3, 1) := by decide +kernel
theorem dX0_part_16 : decode cX0_part 16 = .ok (.imul, 1) := by decide +kernel
theorem dX0_part_17 : decode cX0_part 17 = .ok (.iload_n 2, 1) := by decide +kernel
theorem dX0_part_18 : decode cX0_part 18 = .ok (.iadd, 1) := by decide +kernel
theorem dX0_part_19 : decode cX0_part 19 = .ok (.invokestatic 52, 3) := by decide +kernel
theorem dX0_part_22 : decode cX0_part 22 = .ok (.ireturn, 1) := by decide +kernel
theorem dX1_init_0 : decode cX1_init 0 = .ok (.aload_n 0, 1) := by decide +kernel
theorem dX1_init_1 : decode cX1_init 1 = .ok (.invokespecial 3, 3) := by decide +kernel
theorem dX1_init_4 : decode cX1_init 4 = .ok (.aload_n 0, 1) := by decide +kernel
theorem dX1_init_5 : decode cX1_init 5 = .ok (.bipush 10, 2) := by decide +kernel
theorem dX1_init_7 : decode cX1_init 7 = .ok (.newarray .int, 2) := by decide +kernel
theorem dX1_init_9 : decode cX1_init 9 = .ok (.putfield 9, 3) := by decide +kernel
theorem dX1_init_12 : decode cX1_init 12 = .ok (.aload_n 0, 1) := by decide +kernel
theorem dX1_init_13 : decode cX1_init 13 = .ok (.iconst 1, 1) := by decide +kernel
theorem dX1_init_14 : decode cX1_init 14 = .ok (.putfield 15, 3) := by decide +kernel
theorem dX1_init_17 : decode cX1_init 17 = .ok (.aload_n 0, 1) := by decide +kernel
theorem dX1_init_18 : decode cX1_init 18 = .ok (.iconst 4, 1) := by decide +kernel
theorem dX1_init_19 : decode cX1_init 19 = .ok (.putfield 19, 3) := by decide +kernel
theorem dX1_init_22 : decode cX1_init 22 = .ok (.aload_n 0, 1) := by decide +kernel
theorem dX1_init_23 : decode cX1_init 23 = .ok (.bipush 10, 2) := by decide +kernel
theorem dX1_init_25 : decode cX1_init 25 = .ok (.putfield 22, 3) := by decide +kernel
theorem dX1_init_28 : decode cX1_init 28 = .ok (.return_, 1) := by decide +kernel
theorem dX1_copyFrom_0 : decode cX1_copyFrom 0 = .ok (.aload_n 1, 1) := by decide +kernel
theorem dX1_copyFrom_1 : decode cX1_copyFrom 1 = .ok (.getfield 9, 3) := by decide +kernel
theorem dX1_copyFrom_4 : decode cX1_copyFrom 4 = .ok (.aload_n 0, 1) := by decide +kernel
theorem dX1_copyFrom_5 : decode cX1_copyFrom 5 = .ok (.getfield 9, 3) := by decide +kernel
theorem dX1_copyFrom_8 : decode cX1_copyFrom 8 = .ok (.invokestatic 25, 3) := by decide +kernel
theorem dX1_copyFrom_11 : decode cX1_copyFrom 11 = .ok (.aload_n 0, 1) := by decide +kernel
theorem dX1_copyFrom_12 : decode cX1_copyFrom 12 = .ok (.aload_n 1, 1) := by decide +kernel
theorem dX1_copyFrom_13 : decode cX1_copyFrom 13 = .ok (.getfield 15, 3) := by decide +kernel
theorem dX1_copyFrom_16 : decode cX1_copyFrom 16 = .ok (.putfield 15, 3) := by decide +kernel
theorem dX1_copyFrom_19 : decode cX1_copyFrom 19 = .ok (.aload_n 0, 1) := by decide +kernel
theorem dX1_copyFrom_20 : decode cX1_copyFrom 20 = .ok (.aload_n 1, 1) := by decide +kernel
theorem dX1_copyFrom_21 : decode cX1_copyFrom 21 = .ok (.getfield 19, 3) := by decide +kernel
theorem dX1_copyFrom_24 : decode cX1_copyFrom 24 = .ok (.putfield 19, 3) := by decide +kernel
theorem dX1_copyFrom_27 : decode cX1_copyFrom 27 = .ok (.aload_n 0, 1) := by decide +kernel
theorem dX1_copyFrom_28 : decode cX1_copyFrom 28 = .ok (.aload_n 1, 1) := by decide +kernel
theorem dX1_copyFrom_29 : decode cX1_copyFrom 29 = .ok (.getfield 22, 3) := by decide +kernel
theorem dX1_copyFrom_32 : decode cX1_copyFrom 32 = .ok (.putfield 22, 3) := by decide +kernel
theorem dX1_copyFrom_35 : decode cX1_copyFrom 35 = .ok (.return_, 1) := by decide +kernel
theorem dX1_unreeve_0 : decode cX1_unreeve 0 = .ok (.aload_n 0, 1) := by decide +kernel
theorem dX1_unreeve_1 : decode cX1_unreeve 1 = .ok (.iconst 0, 1) := by decide +kernel
theorem dX1_unreeve_2 : decode cX1_unreeve 2 = .ok (.putfield 15, 3) := by decide +kernel
theorem dX1_unreeve_5 : decode cX1_unreeve 5 = .ok (.aload_n 0, 1) := by decide +kernel
theorem dX1_unreeve_6 : decode cX1_unreeve 6 = .ok (.iconst 4, 1) := by decide +kernel
theorem dX1_unreeve_7 : decode cX1_unreeve 7 = .ok (.putfield 19, 3) := by decide +kernel
theorem dX1_unreeve_10 : decode cX1_unreeve 10 = .ok (.return_, 1) := by decide +kernel
theorem dX1_hang_0 : decode cX1_hang 0 = .ok (.aload_n 0, 1) := by decide +kernel
theorem dX1_hang_1 : decode cX1_hang 1 = .ok (.getfield 15, 3) := by decide +kernel
theorem dX1_hang_4 : decode cX1_hang 4 = .ok (.bipush 10, 2) := by decide +kernel
theorem dX1_hang_6 : decode cX1_hang 6 = .ok (.if_icmp .ge 25, 3) := by decide +kernel
theorem dX1_hang_9 : decode cX1_hang 9 = .ok (.aload_n 0, 1) := by decide +kernel
theorem dX1_hang_10 : decode cX1_hang 10 = .ok (.getfield 9, 3) := by decide +kernel
theorem dX1_hang_13 : decode cX1_hang 13 = .ok (.aload_n 0, 1) := by decide +kernel
theorem dX1_hang_14 : decode cX1_hang 14 = .ok (.getfield 15, 3) := by decide +kernel
theorem dX1_hang_17 : decode cX1_hang 17 = .ok (.iload_n 1, 1) := by decide +kernel
theorem dX1_hang_18 : decode cX1_hang 18 = .ok (.invokestatic 29, 3) := by decide +kernel
theorem dX1_hang_21 : decode cX1_hang 21 = .ok (.aload_n 0, 1) := by decide +kernel
theorem dX1_hang_22 : decode cX1_hang 22 = .ok (.dup, 1) := by decide +kernel
theorem dX1_hang_23 : decode cX1_hang 23 = .ok (.getfield 15, 3) := by decide +kernel
theorem dX1_hang_26 : decode cX1_hang 26 = .ok (.iconst 1, 1) := by decide +kernel
theorem dX1_hang_27 : decode cX1_hang 27 = .ok (.iadd, 1) := by decide +kernel
theorem dX1_hang_28 : decode cX1_hang 28 = .ok (.putfield 15, 3) := by decide +kernel
theorem dX1_hang_31 : decode cX1_hang 31 = .ok (.return_, 1) := by decide +kernel
theorem dX1_unhang_0 : decode cX1_unhang 0 = .ok (.aload_n 0, 1) := by decide +kernel
theorem dX1_unhang_1 : decode cX1_unhang 1 = .ok (.getfield 15, 3) := by decide +kernel
theorem dX1_unhang_4 : decode cX1_unhang 4 = .ok (.ifCond .le 13, 3) := by decide +kernel
theorem dX1_unhang_7 : decode cX1_unhang 7 = .ok (.aload_n 0, 1) := by decide +kernel
theorem dX1_unhang_8 : decode cX1_unhang 8 = .ok (.dup, 1) := by decide +kernel
theorem dX1_unhang_9 : decode cX1_unhang 9 = .ok (.getfield 15, 3) := by decide +kernel
theorem dX1_unhang_12 : decode cX1_unhang 12 = .ok (.iconst 1, 1) := by decide +kernel
theorem dX1_unhang_13 : decode cX1_unhang 13 = .ok (.isub, 1) := by decide +kernel
theorem dX1_unhang_14 : decode cX1_unhang 14 = .ok (.putfield 15, 3) := by decide +kernel
theorem dX1_unhang_17 : decode cX1_unhang 17 = .ok (.aload_n 0, 1) := by decide +kernel
theorem dX1_unhang_18 : decode cX1_unhang 18 = .ok (.getfield 9, 3) := by decide +kernel
theorem dX1_unhang_21 : decode cX1_unhang 21 = .ok (.aload_n 0, 1) := by decide +kernel
theorem dX1_unhang_22 : decode cX1_unhang 22 = .ok (.getfield 15, 3) := by decide +kernel
theorem dX1_unhang_25 : decode cX1_unhang 25 = .ok (.invokestatic 33, 3) := by decide +kernel
theorem dX1_unhang_28 : decode cX1_unhang 28 = .ok (.ireturn, 1) := by decide +kernel
theorem dX1_swap_0 : decode cX1_swap 0 = .ok (.aload_n 0, 1) := by decide +kernel
theorem dX1_swap_1 : decode cX1_swap 1 = .ok (.getfield 9, 3) := by decide +kernel
theorem dX1_swap_4 : decode cX1_swap 4 = .ok (.iload_n 1, 1) := by decide +kernel
theorem dX1_swap_5 : decode cX1_swap 5 = .ok (.invokestatic 33, 3) := by decide +kernel
theorem dX1_swap_8 : decode cX1_swap 8 = .ok (.istore_n 3, 1) := by decide +kernel
theorem dX1_swap_9 : decode cX1_swap 9 = .ok (.aload_n 0, 1) := by decide +kernel
theorem dX1_swap_10 : decode cX1_swap 10 = .ok (.getfield 9, 3) := by decide +kernel
theorem dX1_swap_13 : decode cX1_swap 13 = .ok (.iload_n 1, 1) := by decide +kernel
theorem dX1_swap_14 : decode cX1_swap 14 = .ok (.aload_n 0, 1) := by decide +kernel
theorem dX1_swap_15 : decode cX1_swap 15 = .ok (.getfield 9, 3) := by decide +kernel
theorem dX1_swap_18 : decode cX1_swap 18 = .ok (.iload_n 2, 1) := by decide +kernel
theorem dX1_swap_19 : decode cX1_swap 19 = .ok (.invokestatic 33, 3) := by decide +kernel
theorem dX1_swap_22 : decode cX1_swap 22 = .ok (.invokestatic 29, 3) := by decide +kernel
theorem dX1_swap_25 : decode cX1_swap 25 = .ok (.aload_n 0, 1) := by decide +kernel
theorem dX1_swap_26 : decode cX1_swap 26 = .ok (.getfield 9, 3) := by decide +kernel
theorem dX1_swap_29 : decode cX1_swap 29 = .ok (.iload_n 2, 1) := by decide +kernel
theorem dX1_swap_30 : decode cX1_swap 30 = .ok (.iload_n 3, 1) := by decide +kernel
theorem dX1_swap_31 : decode cX1_swap 31 = .ok (.invokestatic 29, 3) := by decide +kernel
theorem dX1_swap_34 : decode cX1_swap 34 = .ok (.return_, 1) := by decide +kernel
theorem dX1_pulleysOn_0 : decode cX1_pulleysOn 0 = .ok (.iconst 0, 1) := by decide +kernel
theorem dX1_pulleysOn_1 : decode cX1_pulleysOn 1 = .ok (.istore_n 2, 1) := by decide +kernel
theorem dX1_pulleysOn_2 : decode cX1_pulleysOn 2 = .ok (.iconst 0, 1) := by decide +kernel
theorem dX1_pulleysOn_3 : decode cX1_pulleysOn 3 = .ok (.istore_n 3, 1) := by decide +kernel
theorem dX1_pulleysOn_4 : decode cX1_pulleysOn 4 = .ok (.iload_n 3, 1) := by decide +kernel
theorem dX1_pulleysOn_5 : decode cX1_pulleysOn 5 = .ok (.aload_n 0, 1) := by decide +kernel
theorem dX1_pulleysOn_6 : decode cX1_pulleysOn 6 = .ok (.getfield 15, 3) := by decide +kernel
theorem dX1_pulleysOn_9 : decode cX1_pulleysOn 9 = .ok (.if_icmp .ge 31, 3) := by decide +kernel
theorem dX1_pulleysOn_12 : decode cX1_pulleysOn 12 = .ok (.iload_n 3, 1) := by decide +kernel
theorem dX1_pulleysOn_13 : decode cX1_pulleysOn 13 = .ok (.aload_n 0, 1) := by decide +kernel
theorem dX1_pulleysOn_14 : decode cX1_pulleysOn 14 = .ok (.getfield 9, 3) := by decide +kernel
theorem dX1_pulleysOn_17 : decode cX1_pulleysOn 17 = .ok (.arraylength, 1) := by decide +kernel
theorem dX1_pulleysOn_18 : decode cX1_pulleysOn 18 = .ok (.if_icmp .ge 22, 3) := by decide +kernel
theorem dX1_pulleysOn_21 : decode cX1_pulleysOn 21 = .ok (.aload_n 0, 1) := by decide +kernel
theorem dX1_pulleysOn_22 : decode cX1_pulleysOn 22 = .ok (.getfield 9, 3) := by decide +kernel
theorem dX1_pulleysOn_25 : decode cX1_pulleysOn 25 = .ok (.iload_n 3, 1) := by decide +kernel
theorem dX1_pulleysOn_26 : decode cX1_pulleysOn 26 = .ok (.iaload, 1) := by decide +kernel
theorem dX1_pulleysOn_27 : decode cX1_pulleysOn 27 = .ok (.iload_n 1, 1) := by decide +kernel
theorem dX1_pulleysOn_28 : decode cX1_pulleysOn 28 = .ok (.if_icmp .ne 6, 3) := by decide +kernel
theorem dX1_pulleysOn_31 : decode cX1_pulleysOn 31 = .ok (.iinc 2 1, 3) := by decide +kernel
theorem dX1_pulleysOn_34 : decode cX1_pulleysOn 34 = .ok (.iinc 3 1, 3) := by decide +kernel
theorem dX1_pulleysOn_37 : decode cX1_pulleysOn 37 = .ok (.goto (-33), 3) := by decide +kernel
theorem dX1_pulleysOn_40 : decode cX1_pulleysOn 40 = .ok (.iload_n 2, 1) := by decide +kernel
theorem dX1_pulleysOn_41 : decode cX1_pulleysOn 41 = .ok (.ireturn, 1) := by decide +kernel
theorem dX1_strandsOf_0 : decode cX1_strandsOf 0 = .ok (.iconst 2, 1) := by decide +kernel
theorem dX1_strandsOf_1 : decode cX1_strandsOf 1 = .ok (.aload_n 0, 1) := by decide +kernel
theorem dX1_strandsOf_2 : decode cX1_strandsOf 2 = .ok (.iload_n 1, 1) := by decide +kernel
theorem dX1_strandsOf_3 : decode cX1_strandsOf 3 = .ok (.invokevirtual 37, 3) := by decide +kernel
theorem dX1_strandsOf_6 : decode cX1_strandsOf 6 = .ok (.imul, 1) := by decide +kernel
theorem dX1_strandsOf_7 : decode cX1_strandsOf 7 = .ok (.aload_n 0, 1) := by decide +kernel
theorem dX1_strandsOf_8 : decode cX1_strandsOf 8 = .ok (.getfield 19, 3) := by decide +kernel
theorem dX1_strandsOf_11 : decode cX1_strandsOf 11 = .ok (.iload_n 1, 1) := by decide +kernel
theorem dX1_strandsOf_12 : decode cX1_strandsOf 12 = .ok (.if_icmp .ne 7, 3) := by decide +kernel
theorem dX1_strandsOf_15 : decode cX1_strandsOf 15 = .ok (.iconst 1, 1) := by decide +kernel
theorem dX1_strandsOf_16 : decode cX1_strandsOf 16 = .ok (.goto 4, 3) := by decide +kernel
theorem dX1_strandsOf_19 : decode cX1_strandsOf 19 = .ok (.iconst 0, 1) := by decide +kernel
theorem dX1_strandsOf_20 : decode cX1_strandsOf 20 = .ok (.iadd, 1) := by decide +kernel
theorem dX1_strandsOf_21 : decode cX1_strandsOf 21 = .ok (.ireturn, 1) := by decide +kernel
theorem dX1_passes_0 : decode cX1_passes 0 = .ok (.iconst 2, 1) := by decide +kernel
theorem dX1_passes_1 : decode cX1_passes 1 = .ok (.aload_n 0, 1) := by decide +kernel
theorem dX1_passes_2 : decode cX1_passes 2 = .ok (.getfield 15, 3) := by decide +kernel
theorem dX1_passes_5 : decode cX1_passes 5 = .ok (.imul, 1) := by decide +kernel
theorem dX1_passes_6 : decode cX1_passes 6 = .ok (.aload_n 0, 1) := by decide +kernel
theorem dX1_passes_7 : decode cX1_passes 7 = .ok (.getfield 19, 3) := by decide +kernel
theorem dX1_passes_10 : decode cX1_passes 10 = .ok (.iconst 4, 1) := by decide +kernel
theorem dX1_passes_11 : decode cX1_passes 11 = .ok (.if_icmp .ne 7, 3) := by decide +kernel
theorem dX1_passes_14 : decode cX1_passes 14 = .ok (.iconst 0, 1) := by decide +kernel
theorem dX1_passes_15 : decode cX1_passes 15 = .ok (.goto 4, 3) := by decide +kernel
theorem dX1_passes_18 : decode cX1_passes 18 = .ok (.iconst 1, 1) := by decide +kernel
theorem dX1_passes_19 : decode cX1_passes 19 = .ok (.iadd, 1) := by decide +kernel
theorem dX1_passes_20 : decode cX1_passes 20 = .ok (.ireturn, 1) := by decide +kernel
theorem dX1_behindOne_0 : decode cX1_behindOne 0 = .ok (.lload_n 1, 1) := by decide +kernel
theorem dX1_behindOne_1 : decode cX1_behindOne 1 = .ok (.aload_n 0, 1) := by decide +kernel
theorem dX1_behindOne_2 : decode cX1_behindOne 2 = .ok (.getfield 22, 3) := by decide +kernel
theorem dX1_behindOne_5 : decode cX1_behindOne 5 = .ok (.i2l, 1) := by decide +kernel
theorem dX1_behindOne_6 : decode cX1_behindOne 6 = .ok (.lmul, 1) := by decide +kernel
theorem dX1_behindOne_7 : decode cX1_behindOne 7 = .ok (.ldc2_w 41, 3) := by decide +kernel
theorem dX1_behindOne_10 : decode cX1_behindOne 10 = .ok (.ldiv, 1) := by decide +kernel
theorem dX1_behindOne_11 : decode cX1_behindOne 11 = .ok (.lstore 4, 2) := by decide +kernel
theorem dX1_behindOne_13 : decode cX1_behindOne 13 = .ok (.iload_n 3, 1) := by decide +kernel
theorem dX1_behindOne_14 : decode cX1_behindOne 14 = .ok (.ifCond .eq 10, 3) := by decide +kernel
theorem dX1_behindOne_17 : decode cX1_behindOne 17 = .ok (.lload_n 1, 1) := by decide +kernel
theorem dX1_behindOne_18 : decode cX1_behindOne 18 = .ok (.lload 4, 2) := by decide +kernel
theorem dX1_behindOne_20 : decode cX1_behindOne 20 = .ok (.lsub, 1) := by decide +kernel
theorem dX1_behindOne_21 : decode cX1_behindOne 21 = .ok (.goto 7, 3) := by decide +kernel
theorem dX1_behindOne_24 : decode cX1_behindOne 24 = .ok (.lload_n 1, 1) := by decide +kernel
theorem dX1_behindOne_25 : decode cX1_behindOne 25 = .ok (.lload 4, 2) := by decide +kernel
theorem dX1_behindOne_27 : decode cX1_behindOne 27 = .ok (.ladd, 1) := by decide +kernel
theorem dX1_behindOne_28 : decode cX1_behindOne 28 = .ok (.lreturn, 1) := by decide +kernel
theorem dX1_forceBehind_0 : decode cX1_forceBehind 0 = .ok (.iload_n 1, 1) := by decide +kernel
theorem dX1_forceBehind_1 : decode cX1_forceBehind 1 = .ok (.i2l, 1) := by decide +kernel
theorem dX1_forceBehind_2 : decode cX1_forceBehind 2 = .ok (.lstore 4, 2) := by decide +kernel
theorem dX1_forceBehind_4 : decode cX1_forceBehind 4 = .ok (.iconst 0, 1) := by decide +kernel
theorem dX1_forceBehind_5 : decode cX1_forceBehind 5 = .ok (.istore 6, 2) := by decide +kernel
theorem dX1_forceBehind_7 : decode cX1_forceBehind 7 = .ok (.iload 6, 2) := by decide +kernel
theorem dX1_forceBehind_9 : decode cX1_forceBehind 9 = .ok (.iload_n 2, 1) := by decide +kernel
theorem dX1_forceBehind_10 : decode cX1_forceBehind 10 = .ok (.if_icmp .ge 18, 3) := by decide +kernel
theorem dX1_forceBehind_13 : decode cX1_forceBehind 13 = .ok (.aload_n 0, 1) := by decide +kernel
theorem dX1_forceBehind_14 : decode cX1_forceBehind 14 = .ok (.lload 4, 2) := by decide +kernel
theorem dX1_forceBehind_16 : decode cX1_forceBehind 16 = .ok (.iload_n 3, 1) := by decide +kernel
theorem dX1_forceBehind_17 : decode cX1_forceBehind 17 = .ok (.invokevirtual 43, 3) := by decide +kernel
theorem dX1_forceBehind_20 : decode cX1_forceBehind 20 = .ok (.lstore 4, 2) := by decide +kernel
theorem dX1_forceBehind_22 : decode cX1_forceBehind 22 = .ok (.iinc 6 1, 3) := by decide +kernel
theorem dX1_forceBehind_25 : decode cX1_forceBehind 25 = .ok (.goto (-18), 3) := by decide +kernel
theorem dX1_forceBehind_28 : decode cX1_forceBehind 28 = .ok (.lload 4, 2) := by decide +kernel
theorem dX1_forceBehind_30 : decode cX1_forceBehind 30 = .ok (.lreturn, 1) := by decide +kernel
theorem dX1_pullOn_0 : decode cX1_pullOn 0 = .ok (.lconst 0, 1) := by decide +kernel
theorem dX1_pullOn_1 : decode cX1_pullOn 1 = .ok (.lstore 4, 2) := by decide +kernel
theorem dX1_pullOn_3 : decode cX1_pullOn 3 = .ok (.iload_n 2, 1) := by decide +kernel
theorem dX1_pullOn_4 : decode cX1_pullOn 4 = .ok (.i2l, 1) := by decide +kernel
theorem dX1_pullOn_5 : decode cX1_pullOn 5 = .ok (.lstore 6, 2) := by decide +kernel
theorem dX1_pullOn_7 : decode cX1_pullOn 7 = .ok (.iconst 0, 1) := by decide +kernel
theorem dX1_pullOn_8 : decode cX1_pullOn 8 = .ok (.istore 8, 2) := by decide +kernel
theorem dX1_pullOn_10 : decode cX1_pullOn 10 = .ok (.iload 8, 2) := by decide +kernel
theorem dX1_pullOn_12 : decode cX1_pullOn 12 = .ok (.aload_n 0, 1) := by decide +kernel
theorem dX1_pullOn_13 : decode cX1_pullOn 13 = .ok (.getfield 15, 3) := by decide +kernel
theorem dX1_pullOn_16 : decode cX1_pullOn 16 = .ok (.if_icmp .ge 58, 3) := by decide +kernel
theorem dX1_pullOn_19 : decode cX1_pullOn 19 = .ok (.iload 8, 2) := by decide +kernel
theorem dX1_pullOn_21 : decode cX1_pullOn 21 = .ok (.aload_n 0, 1) := by decide +kernel
theorem dX1_pullOn_22 : decode cX1_pullOn 22 = .ok (.getfield 9, 3) := by decide +kernel
theorem dX1_pullOn_25 : decode cX1_pullOn 25 = .ok (.arraylength, 1) := by decide +kernel
theorem dX1_pullOn_26 : decode cX1_pullOn 26 = .ok (.if_icmp .ge 48, 3) := by decide +kernel
theorem dX1_pullOn_29 : decode cX1_pullOn 29 = .ok (.aload_n 0, 1) := by decide +kernel
theorem dX1_pullOn_30 : decode cX1_pullOn 30 = .ok (.lload 6, 2) := by decide +kernel
theorem dX1_pullOn_32 : decode cX1_pullOn 32 = .ok (.iload_n 3, 1) := by decide +kernel
theorem dX1_pullOn_33 : decode cX1_pullOn 33 = .ok (.invokevirtual 43, 3) := by decide +kernel
theorem dX1_pullOn_36 : decode cX1_pullOn 36 = .ok (.lstore 9, 2) := by decide +kernel
theorem dX1_pullOn_38 : decode cX1_pullOn 38 = .ok (.aload_n 0, 1) := by decide +kernel
theorem dX1_pullOn_39 : decode cX1_pullOn 39 = .ok (.lload 9, 2) := by decide +kernel
theorem dX1_pullOn_41 : decode cX1_pullOn 41 = .ok (.iload_n 3, 1) := by decide +kernel
theorem dX1_pullOn_42 : decode cX1_pullOn 42 = .ok (.invokevirtual 43, 3) := by decide +kernel
theorem dX1_pullOn_45 : decode cX1_pullOn 45 = .ok (.lstore 6, 2) := by decide +kernel
theorem dX1_pullOn_47 : decode cX1_pullOn 47 = .ok (.aload_n 0, 1) := by decide +kernel
theorem dX1_pullOn_48 : decode cX1_pullOn 48 = .ok (.getfield 9, 3) := by decide +kernel
theorem dX1_pullOn_51 : decode cX1_pullOn 51 = .ok (.iload 8, 2) := by decide +kernel
theorem dX1_pullOn_53 : decode cX1_pullOn 53 = .ok (.iaload, 1) := by decide +kernel
theorem dX1_pullOn_54 : decode cX1_pullOn 54 = .ok (.iload_n 1, 1) := by decide +kernel
theorem dX1_pullOn_55 : decode cX1_pullOn 55 = .ok (.if_icmp .ne 13, 3) := by decide +kernel
theorem dX1_pullOn_58 : decode cX1_pullOn 58 = .ok (.lload 4, 2) := by decide +kernel
theorem dX1_pullOn_60 : decode cX1_pullOn 60 = .ok (.lload 9, 2) := by decide +kernel
theorem dX1_pullOn_62 : decode cX1_pullOn 62 = .ok (.lload 6, 2) := by decide +kernel
theorem dX1_pullOn_64 : decode cX1_pullOn 64 = .ok (.ladd, 1) := by decide +kernel
theorem dX1_pullOn_65 : decode cX1_pullOn 65 = .ok (.ladd, 1) := by decide +kernel
theorem dX1_pullOn_66 : decode cX1_pullOn 66 = .ok (.lstore 4, 2) := by decide +kernel
theorem dX1_pullOn_68 : decode cX1_pullOn 68 = .ok (.iinc 8 1, 3) := by decide +kernel
theorem dX1_pullOn_71 : decode cX1_pullOn 71 = .ok (.goto (-61), 3) := by decide +kernel
theorem dX1_pullOn_74 : decode cX1_pullOn 74 = .ok (.aload_n 0, 1) := by decide +kernel
theorem dX1_pullOn_75 : decode cX1_pullOn 75 = .ok (.getfield 19, 3) := by decide +kernel
theorem dX1_pullOn_78 : decode cX1_pullOn 78 = .ok (.iload_n 1, 1) := by decide +kernel
theorem dX1_pullOn_79 : decode cX1_pullOn 79 = .ok (.if_icmp .ne 16, 3) := by decide +kernel
theorem dX1_pullOn_82 : decode cX1_pullOn 82 = .ok (.lload 4, 2) := by decide +kernel
theorem dX1_pullOn_84 : decode cX1_pullOn 84 = .ok (.aload_n 0, 1) := by decide +kernel
theorem dX1_pullOn_85 : decode cX1_pullOn 85 = .ok (.lload 6, 2) := by decide +kernel
theorem dX1_pullOn_87 : decode cX1_pullOn 87 = .ok (.iload_n 3, 1) := by decide +kernel
theorem dX1_pullOn_88 : decode cX1_pullOn 88 = .ok (.invokevirtual 43, 3) := by decide +kernel
theorem dX1_pullOn_91 : decode cX1_pullOn 91 = .ok (.ladd, 1) := by decide +kernel
theorem dX1_pullOn_92 : decode cX1_pullOn 92 = .ok (.goto 5, 3) := by decide +kernel
theorem dX1_pullOn_95 : decode cX1_pullOn 95 = .ok (.lload 4, 2) := by decide +kernel
theorem dX1_pullOn_97 : decode cX1_pullOn 97 = .ok (.lreturn, 1) := by decide +kernel
theorem dX1_leastForce_0 : decode cX1_leastForce 0 = .ok (.aload_n 0, 1) := by decide +kernel
theorem dX1_leastForce_1 : decode cX1_leastForce 1 = .ok (.iload_n 1, 1) := by decide +kernel
theorem dX1_leastForce_2 : decode cX1_leastForce 2 = .ok (.invokevirtual 47, 3) := by decide +kernel
theorem dX1_leastForce_5 : decode cX1_leastForce 5 = .ok (.ifCond .eq 17, 3) := by decide +kernel
theorem dX1_leastForce_8 : decode cX1_leastForce 8 = .ok (.aload_n 0, 1) := by decide +kernel
theorem dX1_leastForce_9 : decode cX1_leastForce 9 = .ok (.iload_n 1, 1) := by decide +kernel
theorem dX1_leastForce_10 : decode cX1_leastForce 10 = .ok (.ldc 50, 2) := by decide +kernel
theorem dX1_leastForce_12 : decode cX1_leastForce 12 = .ok (.iload_n 3, 1) := by decide +kernel
theorem dX1_leastForce_13 : decode cX1_leastForce 13 = .ok (.invokevirtual 51, 3) := by decide +kernel
theorem dX1_leastForce_16 : decode cX1_leastForce 16 = .ok (.iload_n 2, 1) := by decide +kernel
theorem dX1_leastForce_17 : decode cX1_leastForce 17 = .ok (.i2l, 1) := by decide +kernel
theorem dX1_leastForce_18 : decode cX1_leastForce 18 = .ok (.lcmp, 1) := by decide +kernel
theorem dX1_leastForce_19 : decode cX1_leastForce 19 = .ok (.ifCond .ge 5, 3) := by decide +kernel
theorem dX1_leastForce_22 : decode cX1_leastForce 22 = .ok (.iconst (-1), 1) := by decide +kernel
theorem dX1_leastForce_23 : decode cX1_leastForce 23 = .ok (.ireturn, 1) := by decide +kernel
theorem dX1_leastForce_24 : decode cX1_leastForce 24 = .ok (.iconst 0, 1) := by decide +kernel
theorem dX1_leastForce_25 : decode cX1_leastForce 25 = .ok (.istore 4, 2) := by decide +kernel
theorem dX1_leastForce_27 : decode cX1_leastForce 27 = .ok (.ldc 50, 2) := by decide +kernel
theorem dX1_leastForce_29 : decode cX1_leastForce 29 = .ok (.istore 5, 2) := by decide +kernel
theorem dX1_leastForce_31 : decode cX1_leastForce 31 = .ok (.iconst 0, 1) := by decide +kernel
theorem dX1_leastForce_32 : decode cX1_leastForce 32 = .ok (.istore 6, 2) := by decide +kernel
theorem dX1_leastForce_34 : decode cX1_leastForce 34 = .ok (.iload 6, 2) := by decide +kernel
theorem dX1_leastForce_36 : decode cX1_leastForce 36 = .ok (.bipush 32, 2) := by decide +kernel
theorem dX1_leastForce_38 : decode cX1_leastForce 38 = .ok (.if_icmp .ge 52, 3) := by decide +kernel
theorem dX1_leastForce_41 : decode cX1_leastForce 41 = .ok (.iload 4, 2) := by decide +kernel
theorem dX1_leastForce_43 : decode cX1_leastForce 43 = .ok (.iload 5, 2) := by decide +kernel
theorem dX1_leastForce_45 : decode cX1_leastForce 45 = .ok (.if_icmp .ge 45, 3) := by decide +kernel
theorem dX1_leastForce_48 : decode cX1_leastForce 48 = .ok (.iload 4, 2) := by decide +kernel
theorem dX1_leastForce_50 : decode cX1_leastForce 50 = .ok (.iload 5, 2) := by decide +kernel
theorem dX1_leastForce_52 : decode cX1_leastForce 52 = .ok (.iadd, 1) := by decide +kernel
theorem dX1_leastForce_53 : decode cX1_leastForce 53 = .ok (.iconst 2, 1) := by decide +kernel
theorem dX1_leastForce_54 : decode cX1_leastForce 54 = .ok (.idiv, 1) := by decide +kernel
theorem dX1_leastForce_55 : decode cX1_leastForce 55 = .ok (.istore 7, 2) := by decide +kernel
theorem dX1_leastForce_57 : decode cX1_leastForce 57 = .ok (.aload_n 0, 1) := by decide +kernel
theorem dX1_leastForce_58 : decode cX1_leastForce 58 = .ok (.iload_n 1, 1) := by decide +kernel
theorem dX1_leastForce_59 : decode cX1_leastForce 59 = .ok (.iload 7, 2) := by decide +kernel
theorem dX1_leastForce_61 : decode cX1_leastForce 61 = .ok (.iload_n 3, 1) := by decide +kernel
theorem dX1_leastForce_62 : decode cX1_leastForce 62 = .ok (.invokevirtual 51, 3) := by decide +kernel
theorem dX1_leastForce_65 : decode cX1_leastForce 65 = .ok (.iload_n 2, 1) := by decide +kernel
theorem dX1_leastForce_66 : decode cX1_leastForce 66 = .ok (.i2l, 1) := by decide +kernel
theorem dX1_leastForce_67 : decode cX1_leastForce 67 = .ok (.lcmp, 1) := by decide +kernel
theorem dX1_leastForce_68 : decode cX1_leastForce 68 = .ok (.ifCond .lt 10, 3) := by decide +kernel
theorem dX1_leastForce_71 : decode cX1_leastForce 71 = .ok (.iload 7, 2) := by decide +kernel
theorem dX1_leastForce_73 : decode cX1_leastForce 73 = .ok (.istore 5, 2) := by decide +kernel
theorem dX1_leastForce_75 : decode cX1_leastForce 75 = .ok (.goto 9, 3) := by decide +kernel
theorem dX1_leastForce_78 : decode cX1_leastForce 78 = .ok (.iload 7, 2) := by decide +kernel
theorem dX1_leastForce_80 : decode cX1_leastForce 80 = .ok (.iconst 1, 1) := by decide +kernel
theorem dX1_leastForce_81 : decode cX1_leastForce 81 = .ok (.iadd, 1) := by decide +kernel
theorem dX1_leastForce_82 : decode cX1_leastForce 82 = .ok (.istore 4, 2) := by decide +kernel
theorem dX1_leastForce_84 : decode cX1_leastForce 84 = .ok (.iinc 6 1, 3) := by decide +kernel
theorem dX1_leastForce_87 : decode cX1_leastForce 87 = .ok (.goto (-53), 3) := by decide +kernel
theorem dX1_leastForce_90 : decode cX1_leastForce 90 = .ok (.iload 5, 2) := by decide +kernel
theorem dX1_leastForce_92 : decode cX1_leastForce 92 = .ok (.ireturn, 1) := by decide +kernel
theorem dX2_init_0 : decode cX2_init 0 = .ok (.aload_n 0, 1) := by decide +kernel
theorem dX2_init_1 : decode cX2_init 1 = .ok (.invokespecial 3, 3) := by decide +kernel
theorem dX2_init_4 : decode cX2_init 4 = .ok (.aload_n 0, 1) := by decide +kernel
theorem dX2_init_5 : decode cX2_init 5 = .ok (.new 9, 3) := by decide +kernel
theorem dX2_init_8 : decode cX2_init 8 = .ok (.dup, 1) := by decide +kernel
theorem dX2_init_9 : decode cX2_init 9 = .ok (.invokespecial 11, 3) := by decide +kernel
theorem dX2_init_12 : decode cX2_init 12 = .ok (.putfield 12, 3) := by decide +kernel
theorem dX2_init_15 : decode cX2_init 15 = .ok (.aload_n 0, 1) := by decide +kernel
theorem dX2_init_16 : decode cX2_init 16 = .ok (.new 18, 3) := by decide +kernel
theorem dX2_init_19 : decode cX2_init 19 = .ok (.dup, 1) := by decide +kernel
theorem dX2_init_20 : decode cX2_init 20 = .ok (.invokespecial 20, 3) := by decide +kernel
theorem dX2_init_23 : decode cX2_init 23 = .ok (.putfield 21, 3) := by decide +kernel
theorem dX2_init_26 : decode cX2_init 26 = .ok (.aload_n 0, 1) := by decide +kernel
theorem dX2_init_27 : decode cX2_init 27 = .ok (.iconst 4, 1) := by decide +kernel
theorem dX2_init_28 : decode cX2_init 28 = .ok (.newarray .int, 2) := by decide +kernel
theorem dX2_init_30 : decode cX2_init 30 = .ok (.putfield 25, 3) := by decide +kernel
theorem dX2_init_33 : decode cX2_init 33 = .ok (.aload_n 0, 1) := by decide +kernel
theorem dX2_init_34 : decode cX2_init 34 = .ok (.iconst 4, 1) := by decide +kernel
theorem dX2_init_35 : decode cX2_init 35 = .ok (.newarray .int, 2) := by decide +kernel
theorem dX2_init_37 : decode cX2_init 37 = .ok (.putfield 29, 3) := by decide +kernel
theorem dX2_init_40 : decode cX2_init 40 = .ok (.aload_n 0, 1) := by decide +kernel
theorem dX2_init_41 : decode cX2_init 41 = .ok (.iconst 4, 1) := by decide +kernel
theorem dX2_init_42 : decode cX2_init 42 = .ok (.newarray .int, 2) := by decide +kernel
theorem dX2_init_44 : decode cX2_init 44 = .ok (.putfield 32, 3) := by decide +kernel
theorem dX2_init_47 : decode cX2_init 47 = .ok (.aload_n 0, 1) := by decide +kernel
theorem dX2_init_48 : decode cX2_init 48 = .ok (.ldc 35, 2) := by decide +kernel
theorem dX2_init_50 : decode cX2_init 50 = .ok (.putfield 36, 3) := by decide +kernel
theorem dX2_init_53 : decode cX2_init 53 = .ok (.iconst 0, 1) := by decide +kernel
theorem dX2_init_54 : decode cX2_init 54 = .ok (.istore_n 1, 1) := by decide +kernel
theorem dX2_init_55 : decode cX2_init 55 = .ok (.iload_n 1, 1) := by decide +kernel
theorem dX2_init_56 : decode cX2_init 56 = .ok (.aload_n 0, 1) := by decide +kernel
theorem dX2_init_57 : decode cX2_init 57 = .ok (.getfield 25, 3) := by decide +kernel
theorem dX2_init_60 : decode cX2_init 60 = .ok (.arraylength, 1) := by decide +kernel
theorem dX2_init_61 : decode cX2_init 61 = .ok (.if_icmp .ge 18, 3) := by decide +kernel
theorem dX2_init_64 : decode cX2_init 64 = .ok (.aload_n 0, 1) := by decide +kernel
theorem dX2_init_65 : decode cX2_init 65 = .ok (.getfield 25, 3) := by decide +kernel
theorem dX2_init_68 : decode cX2_init 68 = .ok (.iload_n 1, 1) := by decide +kernel
theorem dX2_init_69 : decode cX2_init 69 = .ok (.sipush 1000, 3) := by decide +kernel
theorem dX2_init_72 : decode cX2_init 72 = .ok (.iastore, 1) := by decide +kernel
theorem dX2_init_73 : decode cX2_init 73 = .ok (.iinc 1 1, 3) := by decide +kernel
theorem dX2_init_76 : decode cX2_init 76 = .ok (.goto (-21), 3) := by decide +kernel
theorem dX2_init_79 : decode cX2_init 79 = .ok (.return_, 1) := by decide +kernel
theorem dX2_copyFrom_0 : decode cX2_copyFrom 0 = .ok (.aload_n 0, 1) := by decide +kernel
theorem dX2_copyFrom_1 : decode cX2_copyFrom 1 = .ok (.getfield 12, 3) := by decide +kernel
theorem dX2_copyFrom_4 : decode cX2_copyFrom 4 = .ok (.aload_n 1, 1) := by decide +kernel
theorem dX2_copyFrom_5 : decode cX2_copyFrom 5 = .ok (.getfield 12, 3) := by decide +kernel
theorem dX2_copyFrom_8 : decode cX2_copyFrom 8 = .ok (.invokevirtual 40, 3) := by decide +kernel
theorem dX2_copyFrom_11 : decode cX2_copyFrom 11 = .ok (.aload_n 0, 1) := by decide +kernel
theorem dX2_copyFrom_12 : decode cX2_copyFrom 12 = .ok (.getfield 21, 3) := by decide +kernel
theorem dX2_copyFrom_15 : decode cX2_copyFrom 15 = .ok (.aload_n 1, 1) := by decide +kernel
theorem dX2_copyFrom_16 : decode cX2_copyFrom 16 = .ok (.getfield 21, 3) := by decide +kernel
theorem dX2_copyFrom_19 : decode cX2_copyFrom 19 = .ok (.invokevirtual 44, 3) := by decide +kernel
theorem dX2_copyFrom_22 : decode cX2_copyFrom 22 = .ok (.aload_n 1, 1) := by decide +kernel
theorem dX2_copyFrom_23 : decode cX2_copyFrom 23 = .ok (.getfield 25, 3) := by decide +kernel
theorem dX2_copyFrom_26 : decode cX2_copyFrom 26 = .ok (.aload_n 0, 1) := by decide +kernel
theorem dX2_copyFrom_27 : decode cX2_copyFrom 27 = .ok (.getfield 25, 3) := by decide +kernel
theorem dX2_copyFrom_30 : decode cX2_copyFrom 30 = .ok (.invokestatic 47, 3) := by decide +kernel
theorem dX2_copyFrom_33 : decode cX2_copyFrom 33 = .ok (.aload_n 1, 1) := by decide +kernel
theorem dX2_copyFrom_34 : decode cX2_copyFrom 34 = .ok (.getfield 29, 3) := by decide +kernel
theorem dX2_copyFrom_37 : decode cX2_copyFrom 37 = .ok (.aload_n 0, 1) := by decide +kernel
theorem dX2_copyFrom_38 : decode cX2_copyFrom 38 = .ok (.getfield 29, 3) := by decide +kernel
theorem dX2_copyFrom_41 : decode cX2_copyFrom 41 = .ok (.invokestatic 47, 3) := by decide +kernel
theorem dX2_copyFrom_44 : decode cX2_copyFrom 44 = .ok (.aload_n 0, 1) := by decide +kernel
theorem dX2_copyFrom_45 : decode cX2_copyFrom 45 = .ok (.aload_n 1, 1) := by decide +kernel
theorem dX2_copyFrom_46 : decode cX2_copyFrom 46 = .ok (.getfield 36, 3) := by decide +kernel
theorem dX2_copyFrom_49 : decode cX2_copyFrom 49 = .ok (.putfield 36, 3) := by decide +kernel
theorem dX2_copyFrom_52 : decode cX2_copyFrom 52 = .ok (.return_, 1) := by decide +kernel
theorem dX2_weightOf_0 : decode cX2_weightOf 0 = .ok (.aload_n 0, 1) := by decide +kernel
theorem dX2_weightOf_1 : decode cX2_weightOf 1 = .ok (.getfield 25, 3) := by decide +kernel
theorem dX2_weightOf_4 : decode cX2_weightOf 4 = .ok (.iload_n 1, 1) := by decide +kernel
theorem dX2_weightOf_5 : decode cX2_weightOf 5 = .ok (.invokestatic 51, 3) := by decide +kernel
theorem dX2_weightOf_8 : decode cX2_weightOf 8 = .ok (.ireturn, 1) := by decide +kernel
theorem dX2_giveWeight_0 : decode cX2_giveWeight 0 = .ok (.aload_n 0, 1) := by decide +kernel
theorem dX2_giveWeight_1 : decode cX2_giveWeight 1 = .ok (.getfield 25, 3) := by decide +kernel
theorem dX2_giveWeight_4 : decode cX2_giveWeight 4 = .ok (.iload_n 1, 1) := by decide +kernel
theorem dX2_giveWeight_5 : decode cX2_giveWeight 5 = .ok (.iload_n 2, 1) := by decide +kernel
theorem dX2_giveWeight_6 : decode cX2_giveWeight 6 = .ok (.invokestatic 55, 3) := by decide +kernel
theorem dX2_giveWeight_9 : decode cX2_giveWeight 9 = .ok (.return_, 1) := by decide +kernel
theorem dX2_heightOf_0 : decode cX2_heightOf 0 = .ok (.aload_n 0, 1) := by decide +kernel
theorem dX2_heightOf_1 : decode cX2_heightOf 1 = .ok (.getfield 29, 3) := by decide +kernel
theorem dX2_heightOf_4 : decode cX2_heightOf 4 = .ok (.iload_n 1, 1) := by decide +kernel
theorem dX2_heightOf_5 : decode cX2_heightOf 5 = .ok (.invokestatic 51, 3) := by decide +kernel
theorem dX2_heightOf_8 : decode cX2_heightOf 8 = .ok (.ireturn, 1) := by decide +kernel
theorem dX2_layAllDown_0 : decode cX2_layAllDown 0 = .ok (.iconst 0, 1) := by decide +kernel
theorem dX2_layAllDown_1 : decode cX2_layAllDown 1 = .ok (.istore_n 1, 1) := by decide +kernel
theorem dX2_layAllDown_2 : decode cX2_layAllDown 2 = .ok (.iload_n 1, 1) := by decide +kernel
theorem dX2_layAllDown_3 : decode cX2_layAllDown 3 = .ok (.aload_n 0, 1) := by decide +kernel
theorem dX2_layAllDown_4 : decode cX2_layAllDown 4 = .ok (.getfield 29, 3) := by decide +kernel
theorem dX2_layAllDown_7 : decode cX2_layAllDown 7 = .ok (.arraylength, 1) := by decide +kernel
theorem dX2_layAllDown_8 : decode cX2_layAllDown 8 = .ok (.if_icmp .ge 16, 3) := by decide +kernel
theorem dX2_layAllDown_11 : decode cX2_layAllDown 11 = .ok (.aload_n 0, 1) := by decide +kernel
theorem dX2_layAllDown_12 : decode cX2_layAllDown 12 = .ok (.getfield 29, 3) := by decide +kernel
theorem dX2_layAllDown_15 : decode cX2_layAllDown 15 = .ok (.iload_n 1, 1) := by decide +kernel
theorem dX2_layAllDown_16 : decode cX2_layAllDown 16 = .ok (.iconst 0, 1) := by decide +kernel
theorem dX2_layAllDown_17 : decode cX2_layAllDown 17 = .ok (.iastore, 1) := by decide +kernel
theorem dX2_layAllDown_18 : decode cX2_layAllDown 18 = .ok (.iinc 1 1, 3) := by decide +kernel
theorem dX2_layAllDown_21 : decode cX2_layAllDown 21 = .ok (.goto (-19), 3) := by decide +kernel
theorem dX2_layAllDown_24 : decode cX2_layAllDown 24 = .ok (.return_, 1) := by decide +kernel
theorem dX2_inStrands_0 : decode cX2_inStrands 0 = .ok (.iconst 0, 1) := by decide +kernel
theorem dX2_inStrands_1 : decode cX2_inStrands 1 = .ok (.istore_n 1, 1) := by decide +kernel
theorem dX2_inStrands_2 : decode cX2_inStrands 2 = .ok (.iconst 0, 1) := by decide +kernel
theorem dX2_inStrands_3 : decode cX2_inStrands 3 = .ok (.istore_n 2, 1) := by decide +kernel
theorem dX2_inStrands_4 : decode cX2_inStrands 4 = .ok (.iload_n 2, 1) := by decide +kernel
theorem dX2_inStrands_5 : decode cX2_inStrands 5 = .ok (.iconst 4, 1) := by decide +kernel
theorem dX2_inStrands_6 : decode cX2_inStrands 6 = .ok (.if_icmp .ge 30, 3) := by decide +kernel
theorem dX2_inStrands_9 : decode cX2_inStrands 9 = .ok (.iload_n 1, 1) := by decide +kernel
theorem dX2_inStrands_10 : decode cX2_inStrands 10 = .ok (.aload_n 0, 1) := by decide +kernel
theorem dX2_inStrands_11 : decode cX2_inStrands 11 = .ok (.getfield 12, 3) := by decide +kernel
theorem dX2_inStrands_14 : decode cX2_inStrands 14 = .ok (.iload_n 2, 1) := by decide +kernel
theorem dX2_inStrands_15 : decode cX2_inStrands 15 = .ok (.invokevirtual 59, 3) := by decide +kernel
theorem dX2_inStrands_18 : decode cX2_inStrands 18 = .ok (.sipush 10000, 3) := by decide +kernel
theorem dX2_inStrands_21 : decode cX2_inStrands 21 = .ok (.aload_n 0, 1) := by decide +kernel
theorem dX2_inStrands_22 : decode cX2_inStrands 22 = .ok (.iload_n 2, 1) := by decide +kernel
theorem dX2_inStrands_23 : decode cX2_inStrands 23 = .ok (.invokevirtual 63, 3) := by decide +kernel
theorem dX2_inStrands_26 : decode cX2_inStrands 26 = .ok (.isub, 1) := by decide +kernel
theorem dX2_inStrands_27 : decode cX2_inStrands 27 = .ok (.imul, 1) := by decide +kernel
theorem dX2_inStrands_28 : decode cX2_inStrands 28 = .ok (.iadd, 1) := by decide +kernel
theorem dX2_inStrands_29 : decode cX2_inStrands 29 = .ok (.istore_n 1, 1) := by decide +kernel
theorem dX2_inStrands_30 : decode cX2_inStrands 30 = .ok (.iinc 2 1, 3) := by decide +kernel
theorem dX2_inStrands_33 : decode cX2_inStrands 33 = .ok (.goto (-29), 3) := by decide +kernel
theorem dX2_inStrands_36 : decode cX2_inStrands 36 = .ok (.iload_n 1, 1) := by decide +kernel
theorem dX2_inStrands_37 : decode cX2_inStrands 37 = .ok (.ireturn, 1) := by decide +kernel
theorem dX2_inHand_0 : decode cX2_inHand 0 = .ok (.aload_n 0, 1) := by decide +kernel
theorem dX2_inHand_1 : decode cX2_inHand 1 = .ok (.getfield 36, 3) := by decide +kernel
theorem dX2_inHand_4 : decode cX2_inHand 4 = .ok (.aload_n 0, 1) := by decide +kernel
theorem dX2_inHand_5 : decode cX2_inHand 5 = .ok (.invokevirtual 66, 3) := by decide +kernel
theorem dX2_inHand_8 : decode cX2_inHand 8 = .ok (.isub, 1) := by decide +kernel
theorem dX2_inHand_9 : decode cX2_inHand 9 = .ok (.ireturn, 1) := by decide +kernel
theorem dX2_leastForceFor_0 : decode cX2_leastForceFor 0 = .ok (.aload_n 0, 1) := by decide +kernel
theorem dX2_leastForceFor_1 : decode cX2_leastForceFor 1 = .ok (.getfield 12, 3) := by decide +kernel
theorem dX2_leastForceFor_4 : decode cX2_leastForceFor 4 = .ok (.iload_n 1, 1) := by decide +kernel
theorem dX2_leastForceFor_5 : decode cX2_leastForceFor 5 = .ok (.aload_n 0, 1) := by decide +kernel
theorem dX2_leastForceFor_6 : decode cX2_leastForceFor 6 = .ok (.iload_n 1, 1) := by decide +kernel
theorem dX2_leastForceFor_7 : decode cX2_leastForceFor 7 = .ok (.invokevirtual 70, 3) := by decide +kernel
theorem dX2_leastForceFor_10 : decode cX2_leastForceFor 10 = .ok (.iload_n 2, 1) := by decide +kernel
theorem dX2_leastForceFor_11 : decode cX2_leastForceFor 11 = .ok (.invokevirtual 73, 3) := by decide +kernel
theorem dX2_leastForceFor_14 : decode cX2_leastForceFor 14 = .ok (.ireturn, 1) := by decide +kernel
theorem dX2_reckonForces_0 : decode cX2_reckonForces 0 = .ok (.iconst 0, 1) := by decide +kernel
theorem dX2_reckonForces_1 : decode cX2_reckonForces 1 = .ok (.istore_n 2, 1) := by decide +kernel
theorem dX2_reckonForces_2 : decode cX2_reckonForces 2 = .ok (.iload_n 2, 1) := by decide +kernel
theorem dX2_reckonForces_3 : decode cX2_reckonForces 3 = .ok (.aload_n 0, 1) := by decide +kernel
theorem dX2_reckonForces_4 : decode cX2_reckonForces 4 = .ok (.getfield 32, 3) := by decide +kernel
theorem dX2_reckonForces_7 : decode cX2_reckonForces 7 = .ok (.arraylength, 1) := by decide +kernel
theorem dX2_reckonForces_8 : decode cX2_reckonForces 8 = .ok (.if_icmp .ge 21, 3) := by decide +kernel
theorem dX2_reckonForces_11 : decode cX2_reckonForces 11 = .ok (.aload_n 0, 1) := by decide +kernel
theorem dX2_reckonForces_12 : decode cX2_reckonForces 12 = .ok (.getfield 32, 3) := by decide +kernel
theorem dX2_reckonForces_15 : decode cX2_reckonForces 15 = .ok (.iload_n 2, 1) := by decide +kernel
theorem dX2_reckonForces_16 : decode cX2_reckonForces 16 = .ok (.aload_n 0, 1) := by decide +kernel
theorem dX2_reckonForces_17 : decode cX2_reckonForces 17 = .ok (.iload_n 2, 1) := by decide +kernel
theorem dX2_reckonForces_18 : decode cX2_reckonForces 18 = .ok (.iload_n 1, 1) := by decide +kernel
theorem dX2_reckonForces_19 : decode cX2_reckonForces 19 = .ok (.invokevirtual 77, 3) := by decide +kernel
theorem dX2_reckonForces_22 : decode cX2_reckonForces 22 = .ok (.iastore, 1) := by decide +kernel
theorem dX2_reckonForces_23 : decode cX2_reckonForces 23 = .ok (.iinc 2 1, 3) := by decide +kernel
theorem dX2_reckonForces_26 : decode cX2_reckonForces 26 = .ok (.goto (-24), 3) := by decide +kernel
theorem dX2_reckonForces_29 : decode cX2_reckonForces 29 = .ok (.return_, 1) := by decide +kernel
theorem dX2_nextToRise_0 : decode cX2_nextToRise 0 = .ok (.iconst (-1), 1) := by decide +kernel
theorem dX2_nextToRise_1 : decode cX2_nextToRise 1 = .ok (.istore_n 2, 1) := by decide +kernel
theorem dX2_nextToRise_2 : decode cX2_nextToRise 2 = .ok (.iconst (-1), 1) := by decide +kernel
theorem dX2_nextToRise_3 : decode cX2_nextToRise 3 = .ok (.istore_n 3, 1) := by decide +kernel
theorem dX2_nextToRise_4 : decode cX2_nextToRise 4 = .ok (.iconst 0, 1) := by decide +kernel
theorem dX2_nextToRise_5 : decode cX2_nextToRise 5 = .ok (.istore 4, 2) := by decide +kernel
theorem dX2_nextToRise_7 : decode cX2_nextToRise 7 = .ok (.iload 4, 2) := by decide +kernel
theorem dX2_nextToRise_9 : decode cX2_nextToRise 9 = .ok (.iconst 4, 1) := by decide +kernel
theorem dX2_nextToRise_10 : decode cX2_nextToRise 10 = .ok (.if_icmp .ge 73, 3) := by decide +kernel
theorem dX2_nextToRise_13 : decode cX2_nextToRise 13 = .ok (.aload_n 0, 1) := by decide +kernel
theorem dX2_nextToRise_14 : decode cX2_nextToRise 14 = .ok (.getfield 32, 3) := by decide +kernel
theorem dX2_nextToRise_17 : decode cX2_nextToRise 17 = .ok (.iload 4, 2) := by decide +kernel
theorem dX2_nextToRise_19 : decode cX2_nextToRise 19 = .ok (.invokestatic 51, 3) := by decide +kernel
theorem dX2_nextToRise_22 : decode cX2_nextToRise 22 = .ok (.istore 5, 2) := by decide +kernel
theorem dX2_nextToRise_24 : decode cX2_nextToRise 24 = .ok (.iload 5, 2) := by decide +kernel
theorem dX2_nextToRise_26 : decode cX2_nextToRise 26 = .ok (.iconst (-1), 1) := by decide +kernel
theorem dX2_nextToRise_27 : decode cX2_nextToRise 27 = .ok (.if_icmp .eq 25, 3) := by decide +kernel
theorem dX2_nextToRise_30 : decode cX2_nextToRise 30 = .ok (.iload 5, 2) := by decide +kernel
theorem dX2_nextToRise_32 : decode cX2_nextToRise 32 = .ok (.iload_n 1, 1) := by decide +kernel
theorem dX2_nextToRise_33 : decode cX2_nextToRise 33 = .ok (.if_icmp .gt 19, 3) := by decide +kernel
theorem dX2_nextToRise_36 : decode cX2_nextToRise 36 = .ok (.aload_n 0, 1) := by decide +kernel
theorem dX2_nextToRise_37 : decode cX2_nextToRise 37 = .ok (.iload 4, 2) := by decide +kernel
theorem dX2_nextToRise_39 : decode cX2_nextToRise 39 = .ok (.invokevirtual 63, 3) := by decide +kernel
theorem dX2_nextToRise_42 : decode cX2_nextToRise 42 = .ok (.sipush 9000, 3) := by decide +kernel
theorem dX2_nextToRise_45 : decode cX2_nextToRise 45 = .ok (.if_icmp .ge 7, 3) := by decide +kernel
theorem dX2_nextToRise_48 : decode cX2_nextToRise 48 = .ok (.iconst 1, 1) := by decide +kernel
theorem dX2_nextToRise_49 : decode cX2_nextToRise 49 = .ok (.goto 4, 3) := by decide +kernel
theorem dX2_nextToRise_52 : decode cX2_nextToRise 52 = .ok (.iconst 0, 1) := by decide +kernel
theorem dX2_nextToRise_53 : decode cX2_nextToRise 53 = .ok (.istore 6, 2) := by decide +kernel
theorem dX2_nextToRise_55 : decode cX2_nextToRise 55 = .ok (.iload 6, 2) := by decide +kernel
theorem dX2_nextToRise_57 : decode cX2_nextToRise 57 = .ok (.ifCond .eq 20, 3) := by decide +kernel
theorem dX2_nextToRise_60 : decode cX2_nextToRise 60 = .ok (.iload_n 2, 1) := by decide +kernel
theorem dX2_nextToRise_61 : decode cX2_nextToRise 61 = .ok (.iconst (-1), 1) := by decide +kernel
theorem dX2_nextToRise_62 : decode cX2_nextToRise 62 = .ok (.if_icmp .eq 9, 3) := by decide +kernel
theorem dX2_nextToRise_65 : decode cX2_nextToRise 65 = .ok (.iload 5, 2) := by decide +kernel
theorem dX2_nextToRise_67 : decode cX2_nextToRise 67 = .ok (.iload_n 3, 1) := by decide +kernel
theorem dX2_nextToRise_68 : decode cX2_nextToRise 68 = .ok (.if_icmp .ge 9, 3) := by decide +kernel
theorem dX2_nextToRise_71 : decode cX2_nextToRise 71 = .ok (.iload 4, 2) := by decide +kernel
theorem dX2_nextToRise_73 : decode cX2_nextToRise 73 = .ok (.istore_n 2, 1) := by decide +kernel
theorem dX2_nextToRise_74 : decode cX2_nextToRise 74 = .ok (.iload 5, 2) := by decide +kernel
theorem dX2_nextToRise_76 : decode cX2_nextToRise 76 = .ok (.istore_n 3, 1) := by decide +kernel
theorem dX2_nextToRise_77 : decode cX2_nextToRise 77 = .ok (.iinc 4 1, 3) := by decide +kernel
theorem dX2_nextToRise_80 : decode cX2_nextToRise 80 = .ok (.goto (-73), 3) := by decide +kernel
theorem dX2_nextToRise_83 : decode cX2_nextToRise 83 = .ok (.iload_n 2, 1) := by decide +kernel
theorem dX2_nextToRise_84 : decode cX2_nextToRise 84 = .ok (.ireturn, 1) := by decide +kernel
theorem dX2_nextToSink_0 : decode cX2_nextToSink 0 = .ok (.iconst (-1), 1) := by decide +kernel
theorem dX2_nextToSink_1 : decode cX2_nextToSink 1 = .ok (.istore_n 2, 1) := by decide +kernel
theorem dX2_nextToSink_2 : decode cX2_nextToSink 2 = .ok (.iload_n 1, 1) := by decide +kernel
theorem dX2_nextToSink_3 : decode cX2_nextToSink 3 = .ok (.istore_n 3, 1) := by decide +kernel
theorem dX2_nextToSink_4 : decode cX2_nextToSink 4 = .ok (.iconst 0, 1) := by decide +kernel
theorem dX2_nextToSink_5 : decode cX2_nextToSink 5 = .ok (.istore 4, 2) := by decide +kernel
theorem dX2_nextToSink_7 : decode cX2_nextToSink 7 = .ok (.iload 4, 2) := by decide +kernel
theorem dX2_nextToSink_9 : decode cX2_nextToSink 9 = .ok (.iconst 4, 1) := by decide +kernel
theorem dX2_nextToSink_10 : decode cX2_nextToSink 10 = .ok (.if_icmp .ge 41, 3) := by decide +kernel
theorem dX2_nextToSink_13 : decode cX2_nextToSink 13 = .ok (.aload_n 0, 1) := by decide +kernel
theorem dX2_nextToSink_14 : decode cX2_nextToSink 14 = .ok (.getfield 32, 3) := by decide +kernel
theorem dX2_nextToSink_17 : decode cX2_nextToSink 17 = .ok (.iload 4, 2) := by decide +kernel
theorem dX2_nextToSink_19 : decode cX2_nextToSink 19 = .ok (.invokestatic 51, 3) := by decide +kernel
theorem dX2_nextToSink_22 : decode cX2_nextToSink 22 = .ok (.istore 5, 2) := by decide +kernel
theorem dX2_nextToSink_24 : decode cX2_nextToSink 24 = .ok (.iload 5, 2) := by decide +kernel
theorem dX2_nextToSink_26 : decode cX2_nextToSink 26 = .ok (.iload_n 3, 1) := by decide +kernel
theorem dX2_nextToSink_27 : decode cX2_nextToSink 27 = .ok (.if_icmp .le 18, 3) := by decide +kernel
theorem dX2_nextToSink_30 : decode cX2_nextToSink 30 = .ok (.aload_n 0, 1) := by decide +kernel
theorem dX2_nextToSink_31 : decode cX2_nextToSink 31 = .ok (.iload 4, 2) := by decide +kernel
theorem dX2_nextToSink_33 : decode cX2_nextToSink 33 = .ok (.invokevirtual 63, 3) := by decide +kernel
theorem dX2_nextToSink_36 : decode cX2_nextToSink 36 = .ok (.ifCond .le 9, 3) := by decide +kernel
theorem dX2_nextToSink_39 : decode cX2_nextToSink 39 = .ok (.iload 4, 2) := by decide +kernel
theorem dX2_nextToSink_41 : decode cX2_nextToSink 41 = .ok (.istore_n 2, 1) := by decide +kernel
theorem dX2_nextToSink_42 : decode cX2_nextToSink 42 = .ok (.iload 5, 2) := by decide +kernel
theorem dX2_nextToSink_44 : decode cX2_nextToSink 44 = .ok (.istore_n 3, 1) := by decide +kernel
theorem dX2_nextToSink_45 : decode cX2_nextToSink 45 = .ok (.iinc 4 1, 3) := by decide +kernel
theorem dX2_nextToSink_48 : decode cX2_nextToSink 48 = .ok (.goto (-41), 3) := by decide +kernel
theorem dX2_nextToSink_51 : decode cX2_nextToSink 51 = .ok (.iload_n 2, 1) := by decide +kernel
theorem dX2_nextToSink_52 : decode cX2_nextToSink 52 = .ok (.ireturn, 1) := by decide +kernel
theorem dX2_moveUp_0 : decode cX2_moveUp 0 = .ok (.aload_n 0, 1) := by decide +kernel
theorem dX2_moveUp_1 : decode cX2_moveUp 1 = .ok (.iconst 1, 1) := by decide +kernel
theorem dX2_moveUp_2 : decode cX2_moveUp 2 = .ok (.invokevirtual 81, 3) := by decide +kernel
theorem dX2_moveUp_5 : decode cX2_moveUp 5 = .ok (.aload_n 0, 1) := by decide +kernel
theorem dX2_moveUp_6 : decode cX2_moveUp 6 = .ok (.iload_n 1, 1) := by decide +kernel
theorem dX2_moveUp_7 : decode cX2_moveUp 7 = .ok (.iload_n 2, 1) := by decide +kernel
theorem dX2_moveUp_8 : decode cX2_moveUp 8 = .ok (.iconst 1, 1) := by decide +kernel
theorem dX2_moveUp_9 : decode cX2_moveUp 9 = .ok (.invokevirtual 85, 3) := by decide +kernel
theorem dX2_moveUp_12 : decode cX2_moveUp 12 = .ok (.istore_n 3, 1) := by decide +kernel
theorem dX2_moveUp_13 : decode cX2_moveUp 13 = .ok (.aload_n 0, 1) := by decide +kernel
theorem dX2_moveUp_14 : decode cX2_moveUp 14 = .ok (.getfield 21, 3) := by decide +kernel
theorem dX2_moveUp_17 : decode cX2_moveUp 17 = .ok (.dup, 1) := by decide +kernel
theorem dX2_moveUp_18 : decode cX2_moveUp 18 = .ok (.getfield 88, 3) := by decide +kernel
theorem dX2_moveUp_21 : decode cX2_moveUp 21 = .ok (.iload_n 1, 1) := by decide +kernel
theorem dX2_moveUp_22 : decode cX2_moveUp 22 = .ok (.i2l, 1) := by decide +kernel
theorem dX2_moveUp_23 : decode cX2_moveUp 23 = .ok (.iload_n 3, 1) := by decide +kernel
theorem dX2_moveUp_24 : decode cX2_moveUp 24 = .ok (.i2l, 1) := by decide +kernel
theorem dX2_moveUp_25 : decode cX2_moveUp 25 = .ok (.lmul, 1) := by decide +kernel
theorem dX2_moveUp_26 : decode cX2_moveUp 26 = .ok (.ladd, 1) := by decide +kernel
theorem dX2_moveUp_27 : decode cX2_moveUp 27 = .ok (.putfield 88, 3) := by decide +kernel
theorem dX2_moveUp_30 : decode cX2_moveUp 30 = .ok (.iload_n 3, 1) := by decide +kernel
theorem dX2_moveUp_31 : decode cX2_moveUp 31 = .ok (.ireturn, 1) := by decide +kernel
theorem dX2_moveDown_0 : decode cX2_moveDown 0 = .ok (.aload_n 0, 1) := by decide +kernel
theorem dX2_moveDown_1 : decode cX2_moveDown 1 = .ok (.iconst 0, 1) := by decide +kernel
theorem dX2_moveDown_2 : decode cX2_moveDown 2 = .ok (.invokevirtual 81, 3) := by decide +kernel
theorem dX2_moveDown_5 : decode cX2_moveDown 5 = .ok (.aload_n 0, 1) := by decide +kernel
theorem dX2_moveDown_6 : decode cX2_moveDown 6 = .ok (.iload_n 1, 1) := by decide +kernel
theorem dX2_moveDown_7 : decode cX2_moveDown 7 = .ok (.iload_n 2, 1) := by decide +kernel
theorem dX2_moveDown_8 : decode cX2_moveDown 8 = .ok (.aload_n 0, 1) := by decide +kernel
theorem dX2_moveDown_9 : decode cX2_moveDown 9 = .ok (.invokevirtual 92, 3) := by decide +kernel
theorem dX2_moveDown_12 : decode cX2_moveDown 12 = .ok (.invokestatic 95, 3) := by decide +kernel
theorem dX2_moveDown_15 : decode cX2_moveDown 15 = .ok (.iconst 0, 1) := by decide +kernel
theorem dX2_moveDown_16 : decode cX2_moveDown 16 = .ok (.invokevirtual 85, 3) := by decide +kernel
theorem dX2_moveDown_19 : decode cX2_moveDown 19 = .ok (.ireturn, 1) := by decide +kernel
theorem dX2_moveInTurn_0 : decode cX2_moveInTurn 0 = .ok (.iload_n 2, 1) := by decide +kernel
theorem dX2_moveInTurn_1 : decode cX2_moveInTurn 1 = .ok (.istore 4, 2) := by decide +kernel
theorem dX2_moveInTurn_3 : decode cX2_moveInTurn 3 = .ok (.iconst 0, 1) := by decide +kernel
theorem dX2_moveInTurn_4 : decode cX2_moveInTurn 4 = .ok (.istore 5, 2) := by decide +kernel
theorem dX2_moveInTurn_6 : decode cX2_moveInTurn 6 = .ok (.iload 5, 2) := by decide +kernel
theorem dX2_moveInTurn_8 : decode cX2_moveInTurn 8 = .ok (.iconst 4, 1) := by decide +kernel
theorem dX2_moveInTurn_9 : decode cX2_moveInTurn 9 = .ok (.if_icmp .ge 50, 3) := by decide +kernel
theorem dX2_moveInTurn_12 : decode cX2_moveInTurn 12 = .ok (.aload_n 0, 1) := by decide +kernel
theorem dX2_moveInTurn_13 : decode cX2_moveInTurn 13 = .ok (.iload_n 3, 1) := by decide +kernel
theorem dX2_moveInTurn_14 : decode cX2_moveInTurn 14 = .ok (.ifCond .eq 11, 3) := by decide +kernel
theorem dX2_moveInTurn_17 : decode cX2_moveInTurn 17 = .ok (.aload_n 0, 1) := by decide +kernel
theorem dX2_moveInTurn_18 : decode cX2_moveInTurn 18 = .ok (.iload_n 1, 1) := by decide +kernel
theorem dX2_moveInTurn_19 : decode cX2_moveInTurn 19 = .ok (.invokevirtual 101, 3) := by decide +kernel
theorem dX2_moveInTurn_22 : decode cX2_moveInTurn 22 = .ok (.goto 8, 3) := by decide +kernel
theorem dX2_moveInTurn_25 : decode cX2_moveInTurn 25 = .ok (.aload_n 0, 1) := by decide +kernel
theorem dX2_moveInTurn_26 : decode cX2_moveInTurn 26 = .ok (.iload_n 1, 1) := by decide +kernel
theorem dX2_moveInTurn_27 : decode cX2_moveInTurn 27 = .ok (.invokevirtual 104, 3) := by decide +kernel
theorem dX2_moveInTurn_30 : decode cX2_moveInTurn 30 = .ok (.iload 4, 2) := by decide +kernel
theorem dX2_moveInTurn_32 : decode cX2_moveInTurn 32 = .ok (.iload_n 3, 1) := by decide +kernel
theorem dX2_moveInTurn_33 : decode cX2_moveInTurn 33 = .ok (.invokevirtual 107, 3) := by decide +kernel
theorem dX2_moveInTurn_36 : decode cX2_moveInTurn 36 = .ok (.istore 6, 2) := by decide +kernel
theorem dX2_moveInTurn_38 : decode cX2_moveInTurn 38 = .ok (.iload 6, 2) := by decide +kernel
theorem dX2_moveInTurn_40 : decode cX2_moveInTurn 40 = .ok (.ifCond .ne 6, 3) := by decide +kernel
theorem dX2_moveInTurn_43 : decode cX2_moveInTurn 43 = .ok (.goto 16, 3) := by decide +kernel
theorem dX2_moveInTurn_46 : decode cX2_moveInTurn 46 = .ok (.iload 4, 2) := by decide +kernel
theorem dX2_moveInTurn_48 : decode cX2_moveInTurn 48 = .ok (.iload 6, 2) := by decide +kernel
theorem dX2_moveInTurn_50 : decode cX2_moveInTurn 50 = .ok (.isub, 1) := by decide +kernel
theorem dX2_moveInTurn_51 : decode cX2_moveInTurn 51 = .ok (.istore 4, 2) := by decide +kernel
theorem dX2_moveInTurn_53 : decode cX2_moveInTurn 53 = .ok (.iinc 5 1, 3) := by decide +kernel
theorem dX2_moveInTurn_56 : decode cX2_moveInTurn 56 = .ok (.goto (-50), 3) := by decide +kernel
theorem dX2_moveInTurn_59 : decode cX2_moveInTurn 59 = .ok (.iload_n 2, 1) := by decide +kernel
theorem dX2_moveInTurn_60 : decode cX2_moveInTurn 60 = .ok (.iload 4, 2) := by decide +kernel
theorem dX2_moveInTurn_62 : decode cX2_moveInTurn 62 = .ok (.isub, 1) := by decide +kernel
theorem dX2_moveInTurn_63 : decode cX2_moveInTurn 63 = .ok (.ireturn, 1) := by decide +kernel
theorem dX2_moveOne_0 : decode cX2_moveOne 0 = .ok (.aload_n 0, 1) := by decide +kernel
theorem dX2_moveOne_1 : decode cX2_moveOne 1 = .ok (.getfield 12, 3) := by decide +kernel
theorem dX2_moveOne_4 : decode cX2_moveOne 4 = .ok (.iload_n 1, 1) := by decide +kernel
theorem dX2_moveOne_5 : decode cX2_moveOne 5 = .ok (.invokevirtual 59, 3) := by decide +kernel
theorem dX2_moveOne_8 : decode cX2_moveOne 8 = .ok (.istore 4, 2) := by decide +kernel
theorem dX2_moveOne_10 : decode cX2_moveOne 10 = .ok (.iload_n 1, 1) := by decide +kernel
theorem dX2_moveOne_11 : decode cX2_moveOne 11 = .ok (.invokestatic 110, 3) := by decide +kernel
theorem dX2_moveOne_14 : decode cX2_moveOne 14 = .ok (.ifCond .eq 8, 3) := by decide +kernel
theorem dX2_moveOne_17 : decode cX2_moveOne 17 = .ok (.iload 4, 2) := by decide +kernel
theorem dX2_moveOne_19 : decode cX2_moveOne 19 = .ok (.ifCond .gt 5, 3) := by decide +kernel
theorem dX2_moveOne_22 : decode cX2_moveOne 22 = .ok (.iconst 0, 1) := by decide +kernel
theorem dX2_moveOne_23 : decode cX2_moveOne 23 = .ok (.ireturn, 1) := by decide +kernel
theorem dX2_moveOne_24 : decode cX2_moveOne 24 = .ok (.iload_n 3, 1) := by decide +kernel
theorem dX2_moveOne_25 : decode cX2_moveOne 25 = .ok (.ifCond .eq 15, 3) := by decide +kernel
theorem dX2_moveOne_28 : decode cX2_moveOne 28 = .ok (.sipush 9000, 3) := by decide +kernel
theorem dX2_moveOne_31 : decode cX2_moveOne 31 = .ok (.aload_n 0, 1) := by decide +kernel
theorem dX2_moveOne_32 : decode cX2_moveOne 32 = .ok (.iload_n 1, 1) := by decide +kernel
theorem dX2_moveOne_33 : decode cX2_moveOne 33 = .ok (.invokevirtual 63, 3) := by decide +kernel
theorem dX2_moveOne_36 : decode cX2_moveOne 36 = .ok (.isub, 1) := by decide +kernel
theorem dX2_moveOne_37 : decode cX2_moveOne 37 = .ok (.goto 8, 3) := by decide +kernel
theorem dX2_moveOne_40 : decode cX2_moveOne 40 = .ok (.aload_n 0, 1) := by decide +kernel
theorem dX2_moveOne_41 : decode cX2_moveOne 41 = .ok (.iload_n 1, 1) := by decide +kernel
theorem dX2_moveOne_42 : decode cX2_moveOne 42 = .ok (.invokevirtual 63, 3) := by decide +kernel
theorem dX2_moveOne_45 : decode cX2_moveOne 45 = .ok (.istore 5, 2) := by decide +kernel
theorem dX2_moveOne_47 : decode cX2_moveOne 47 = .ok (.iload_n 2, 1) := by decide +kernel
theorem dX2_moveOne_48 : decode cX2_moveOne 48 = .ok (.iload 4, 2) := by decide +kernel
theorem dX2_moveOne_50 : decode cX2_moveOne 50 = .ok (.idiv, 1) := by decide +kernel
theorem dX2_moveOne_51 : decode cX2_moveOne 51 = .ok (.iload 5, 2) := by decide +kernel
theorem dX2_moveOne_53 : decode cX2_moveOne 53 = .ok (.invokestatic 95, 3) := by decide +kernel
theorem dX2_moveOne_56 : decode cX2_moveOne 56 = .ok (.istore 6, 2) := by decide +kernel
theorem dX2_moveOne_58 : decode cX2_moveOne 58 = .ok (.iload 6, 2) := by decide +kernel
theorem dX2_moveOne_60 : decode cX2_moveOne 60 = .ok (.ifCond .gt 5, 3) := by decide +kernel
theorem dX2_moveOne_63 : decode cX2_moveOne 63 = .ok (.iconst 0, 1) := by decide +kernel
theorem dX2_moveOne_64 : decode cX2_moveOne 64 = .ok (.ireturn, 1) := by decide +kernel
theorem dX2_moveOne_65 : decode cX2_moveOne 65 = .ok (.iload_n 3, 1) := by decide +kernel
theorem dX2_moveOne_66 : decode cX2_moveOne 66 = .ok (.ifCond .eq 8, 3) := by decide +kernel
theorem dX2_moveOne_69 : decode cX2_moveOne 69 = .ok (.iload 6, 2) := by decide +kernel
theorem dX2_moveOne_71 : decode cX2_moveOne 71 = .ok (.goto 6, 3) := by decide +kernel
theorem dX2_moveOne_74 : decode cX2_moveOne 74 = .ok (.iload 6, 2) := by decide +kernel
theorem dX2_moveOne_76 : decode cX2_moveOne 76 = .ok (.ineg, 1) := by decide +kernel
theorem dX2_moveOne_77 : decode cX2_moveOne 77 = .ok (.istore 7, 2) := by decide +kernel
theorem dX2_moveOne_79 : decode cX2_moveOne 79 = .ok (.aload_n 0, 1) := by decide +kernel
theorem dX2_moveOne_80 : decode cX2_moveOne 80 = .ok (.getfield 29, 3) := by decide +kernel
theorem dX2_moveOne_83 : decode cX2_moveOne 83 = .ok (.iload_n 1, 1) := by decide +kernel
theorem dX2_moveOne_84 : decode cX2_moveOne 84 = .ok (.aload_n 0, 1) := by decide +kernel
theorem dX2_moveOne_85 : decode cX2_moveOne 85 = .ok (.iload_n 1, 1) := by decide +kernel
theorem dX2_moveOne_86 : decode cX2_moveOne 86 = .ok (.invokevirtual 63, 3) := by decide +kernel
theorem dX2_moveOne_89 : decode cX2_moveOne 89 = .ok (.iload 7, 2) := by decide +kernel
theorem dX2_moveOne_91 : decode cX2_moveOne 91 = .ok (.iadd, 1) := by decide +kernel
theorem dX2_moveOne_92 : decode cX2_moveOne 92 = .ok (.invokestatic 55, 3) := by decide +kernel
theorem dX2_moveOne_95 : decode cX2_moveOne 95 = .ok (.aload_n 0, 1) := by decide +kernel
theorem dX2_moveOne_96 : decode cX2_moveOne 96 = .ok (.getfield 21, 3) := by decide +kernel
theorem dX2_moveOne_99 : decode cX2_moveOne 99 = .ok (.iload_n 1, 1) := by decide +kernel
theorem dX2_moveOne_100 : decode cX2_moveOne 100 = .ok (.iload 7, 2) := by decide +kernel
theorem dX2_moveOne_102 : decode cX2_moveOne 102 = .ok (.iload 7, 2) := by decide +kernel
theorem dX2_moveOne_104 : decode cX2_moveOne 104 = .ok (.iload 4, 2) := by decide +kernel
theorem dX2_moveOne_106 : decode cX2_moveOne 106 = .ok (.imul, 1) := by decide +kernel
theorem dX2_moveOne_107 : decode cX2_moveOne 107 = .ok (.invokevirtual 114, 3) := by decide +kernel
theorem dX2_moveOne_110 : decode cX2_moveOne 110 = .ok (.iload_n 3, 1) := by decide +kernel
theorem dX2_moveOne_111 : decode cX2_moveOne 111 = .ok (.ifCond .eq 25, 3) := by decide +kernel
theorem dX2_moveOne_114 : decode cX2_moveOne 114 = .ok (.aload_n 0, 1) := by decide +kernel
theorem dX2_moveOne_115 : decode cX2_moveOne 115 = .ok (.getfield 21, 3) := by decide +kernel
theorem dX2_moveOne_118 : decode cX2_moveOne 118 = .ok (.dup, 1) := by decide +kernel
theorem dX2_moveOne_119 : decode cX2_moveOne 119 = .ok (.getfield 118, 3) := by decide +kernel
theorem dX2_moveOne_122 : decode cX2_moveOne 122 = .ok (.aload_n 0, 1) := by decide +kernel
theorem dX2_moveOne_123 : decode cX2_moveOne 123 = .ok (.iload_n 1, 1) := by decide +kernel
theorem dX2_moveOne_124 : decode cX2_moveOne 124 = .ok (.invokevirtual 70, 3) := by decide +kernel
theorem dX2_moveOne_127 : decode cX2_moveOne 127 = .ok (.i2l, 1) := by decide +kernel
theorem dX2_moveOne_128 : decode cX2_moveOne 128 = .ok (.iload 6, 2) := by decide +kernel
theorem dX2_moveOne_130 : decode cX2_moveOne 130 = .ok (.i2l, 1) := by decide +kernel
theorem dX2_moveOne_131 : decode cX2_moveOne 131 = .ok (.lmul, 1) := by decide +kernel
theorem dX2_moveOne_132 : decode cX2_moveOne 132 = .ok (.ladd, 1) := by decide +kernel
theorem dX2_moveOne_133 : decode cX2_moveOne 133 = .ok (.putfield 118, 3) := by decide +kernel
theorem dX2_moveOne_136 : decode cX2_moveOne 136 = .ok (.iload 6, 2) := by decide +kernel
theorem dX2_moveOne_138 : decode cX2_moveOne 138 = .ok (.iload 4, 2) := by decide +kernel
theorem dX2_moveOne_140 : decode cX2_moveOne 140 = .ok (.imul, 1) := by decide +kernel
theorem dX2_moveOne_141 : decode cX2_moveOne 141 = .ok (.ireturn, 1) := by decide +kernel
theorem dX3_init_0 : decode cX3_init 0 = .ok (.aload_n 0, 1) := by decide +kernel
theorem dX3_init_1 : decode cX3_init 1 = .ok (.invokespecial 3, 3) := by decide +kernel
theorem dX3_init_4 : decode cX3_init 4 = .ok (.aload_n 0, 1) := by decide +kernel
theorem dX3_init_5 : decode cX3_init 5 = .ok (.bipush 60, 2) := by decide +kernel
theorem dX3_init_7 : decode cX3_init 7 = .ok (.newarray .int, 2) := by decide +kernel
theorem dX3_init_9 : decode cX3_init 9 = .ok (.putfield 9, 3) := by decide +kernel
theorem dX3_init_12 : decode cX3_init 12 = .ok (.aload_n 0, 1) := by decide +kernel
theorem dX3_init_13 : decode cX3_init 13 = .ok (.iconst 0, 1) := by decide +kernel
theorem dX3_init_14 : decode cX3_init 14 = .ok (.putfield 15, 3) := by decide +kernel
theorem dX3_init_17 : decode cX3_init 17 = .ok (.aload_n 0, 1) := by decide +kernel
theorem dX3_init_18 : decode cX3_init 18 = .ok (.iconst 0, 1) := by decide +kernel
theorem dX3_init_19 : decode cX3_init 19 = .ok (.putfield 19, 3) := by decide +kernel
theorem dX3_init_22 : decode cX3_init 22 = .ok (.return_, 1) := by decide +kernel
theorem dX3_readInto_0 : decode cX3_readInto 0 = .ok (.aload_n 0, 1) := by decide +kernel
theorem dX3_readInto_1 : decode cX3_readInto 1 = .ok (.iconst 0, 1) := by decide +kernel
theorem dX3_readInto_2 : decode cX3_readInto 2 = .ok (.putfield 19, 3) := by decide +kernel
theorem dX3_readInto_5 : decode cX3_readInto 5 = .ok (.aload_n 1, 1) := by decide +kernel
theorem dX3_readInto_6 : decode cX3_readInto 6 = .ok (.invokevirtual 22, 3) := by decide +kernel
theorem dX3_readInto_9 : decode cX3_readInto 9 = .ok (.aload_n 1, 1) := by decide +kernel
theorem dX3_readInto_10 : decode cX3_readInto 10 = .ok (.getfield 27, 3) := by decide +kernel
theorem dX3_readInto_13 : decode cX3_readInto 13 = .ok (.invokevirtual 31, 3) := by decide +kernel
theorem dX3_readInto_16 : decode cX3_readInto 16 = .ok (.iconst 0, 1) := by decide +kernel
theorem dX3_readInto_17 : decode cX3_readInto 17 = .ok (.istore_n 2, 1) := by decide +kernel
theorem dX3_readInto_18 : decode cX3_readInto 18 = .ok (.iload_n 2, 1) := by decide +kernel
theorem dX3_readInto_19 : decode cX3_readInto 19 = .ok (.bipush 10, 2) := by decide +kernel
theorem dX3_readInto_21 : decode cX3_readInto 21 = .ok (.if_icmp .ge 31, 3) := by decide +kernel
theorem dX3_readInto_24 : decode cX3_readInto 24 = .ok (.aload_n 0, 1) := by decide +kernel
theorem dX3_readInto_25 : decode cX3_readInto 25 = .ok (.bipush 48, 2) := by decide +kernel
theorem dX3_readInto_27 : decode cX3_readInto 27 = .ok (.bipush 51, 2) := by decide +kernel
theorem dX3_readInto_29 : decode cX3_readInto 29 = .ok (.invokevirtual 36, 3) := by decide +kernel
theorem dX3_readInto_32 : decode cX3_readInto 32 = .ok (.ifCond .eq 20, 3) := by decide +kernel
theorem dX3_readInto_35 : decode cX3_readInto 35 = .ok (.aload_n 1, 1) := by decide +kernel
theorem dX3_readInto_36 : decode cX3_readInto 36 = .ok (.getfield 27, 3) := by decide +kernel
theorem dX3_readInto_39 : decode cX3_readInto 39 = .ok (.aload_n 0, 1) := by decide +kernel
theorem dX3_readInto_40 : decode cX3_readInto 40 = .ok (.invokevirtual 40, 3) := by decide +kernel
theorem dX3_readInto_43 : decode cX3_readInto 43 = .ok (.invokevirtual 44, 3) := by decide +kernel
theorem dX3_readInto_46 : decode cX3_readInto 46 = .ok (.iinc 2 1, 3) := by decide +kernel
theorem dX3_readInto_49 : decode cX3_readInto 49 = .ok (.goto (-31), 3) := by decide +kernel
theorem dX3_readInto_52 : decode cX3_readInto 52 = .ok (.aload_n 0, 1) := by decide +kernel
theorem dX3_readInto_53 : decode cX3_readInto 53 = .ok (.bipush 46, 2) := by decide +kernel
theorem dX3_readInto_55 : decode cX3_readInto 55 = .ok (.bipush 46, 2) := by decide +kernel
theorem dX3_readInto_57 : decode cX3_readInto 57 = .ok (.invokevirtual 36, 3) := by decide +kernel
theorem dX3_readInto_60 : decode cX3_readInto 60 = .ok (.ifCond .ne 8, 3) := by decide +kernel
theorem dX3_readInto_63 : decode cX3_readInto 63 = .ok (.aload_n 0, 1) := by decide +kernel
theorem dX3_readInto_64 : decode cX3_readInto 64 = .ok (.getfield 19, 3) := by decide +kernel
theorem dX3_readInto_67 : decode cX3_readInto 67 = .ok (.ireturn, 1) := by decide +kernel
theorem dX3_readInto_68 : decode cX3_readInto 68 = .ok (.aload_n 0, 1) := by decide +kernel
theorem dX3_readInto_69 : decode cX3_readInto 69 = .ok (.dup, 1) := by decide +kernel
theorem dX3_readInto_70 : decode cX3_readInto 70 = .ok (.getfield 19, 3) := by decide +kernel
theorem dX3_readInto_73 : decode cX3_readInto 73 = .ok (.iconst 1, 1) := by decide +kernel
theorem dX3_readInto_74 : decode cX3_readInto 74 = .ok (.iadd, 1) := by decide +kernel
theorem dX3_readInto_75 : decode cX3_readInto 75 = .ok (.putfield 19, 3) := by decide +kernel
theorem dX3_readInto_78 : decode cX3_readInto 78 = .ok (.aload_n 0, 1) := by decide +kernel
theorem dX3_readInto_79 : decode cX3_readInto 79 = .ok (.bipush 48, 2) := by decide +kernel
theorem dX3_readInto_81 : decode cX3_readInto 81 = .ok (.bipush 52, 2) := by decide +kernel
theorem dX3_readInto_83 : decode cX3_readInto 83 = .ok (.invokevirtual 36, 3) := by decide +kernel
theorem dX3_readInto_86 : decode cX3_readInto 86 = .ok (.ifCond .ne 8, 3) := by decide +kernel
theorem dX3_readInto_89 : decode cX3_readInto 89 = .ok (.aload_n 0, 1) := by decide +kernel
theorem dX3_readInto_90 : decode cX3_readInto 90 = .ok (.getfield 19, 3) := by decide +kernel
theorem dX3_readInto_93 : decode cX3_readInto 93 = .ok (.ireturn, 1) := by decide +kernel
theorem dX3_readInto_94 : decode cX3_readInto 94 = .ok (.aload_n 1, 1) := by decide +kernel
theorem dX3_readInto_95 : decode cX3_readInto 95 = .ok (.getfield 27, 3) := by decide +kernel
theorem dX3_readInto_98 : decode cX3_readInto 98 = .ok (.aload_n 0, 1) := by decide +kernel
theorem dX3_readInto_99 : decode cX3_readInto 99 = .ok (.invokevirtual 40, 3) := by decide +kernel
theorem dX3_readInto_102 : decode cX3_readInto 102 = .ok (.putfield 48, 3) := by decide +kernel
theorem dX3_readInto_105 : decode cX3_readInto 105 = .ok (.iconst (-1), 1) := by decide +kernel
theorem dX3_readInto_106 : decode cX3_readInto 106 = .ok (.istore_n 2, 1) := by decide +kernel
theorem dX3_readInto_107 : decode cX3_readInto 107 = .ok (.iconst 0, 1) := by decide +kernel
theorem dX3_readInto_108 : decode cX3_readInto 108 = .ok (.istore_n 3, 1) := by decide +kernel
theorem dX3_readInto_109 : decode cX3_readInto 109 = .ok (.iload_n 3, 1) := by decide +kernel
theorem dX3_readInto_110 : decode cX3_readInto 110 = .ok (.iconst 4, 1) := by decide +kernel
theorem dX3_readInto_111 : decode cX3_readInto 111 = .ok (.if_icmp .ge 32, 3) := by decide +kernel
theorem dX3_readInto_114 : decode cX3_readInto 114 = .ok (.aload_n 0, 1) := by decide +kernel
theorem dX3_readInto_115 : decode cX3_readInto 115 = .ok (.getfield 19, 3) := by decide +kernel
theorem dX3_readInto_118 : decode cX3_readInto 118 = .ok (.aload_n 0, 1) := by decide +kernel
theorem dX3_readInto_119 : decode cX3_readInto 119 = .ok (.getfield 15, 3) := by decide +kernel
theorem dX3_readInto_122 : decode cX3_readInto 122 = .ok (.if_icmp .ge 21, 3) := by decide +kernel
theorem dX3_readInto_125 : decode cX3_readInto 125 = .ok (.iload_n 2, 1) := by decide +kernel
theorem dX3_readInto_126 : decode cX3_readInto 126 = .ok (.iconst (-1), 1) := by decide +kernel
theorem dX3_readInto_127 : decode cX3_readInto 127 = .ok (.if_icmp .ne 16, 3) := by decide +kernel
theorem dX3_readInto_130 : decode cX3_readInto 130 = .ok (.aload_n 0, 1) := by decide +kernel
theorem dX3_readInto_131 : decode cX3_readInto 131 = .ok (.aload_n 1, 1) := by decide +kernel
theorem dX3_readInto_132 : decode cX3_readInto 132 = .ok (.iload_n 3, 1) := by decide +kernel
theorem dX3_readInto_133 : decode cX3_readInto 133 = .ok (.invokevirtual 51, 3) := by decide +kernel
theorem dX3_readInto_136 : decode cX3_readInto 136 = .ok (.istore_n 2, 1) := by decide +kernel
theorem dX3_readInto_137 : decode cX3_readInto 137 = .ok (.iinc 3 1, 3) := by decide +kernel
theorem dX3_readInto_140 : decode cX3_readInto 140 = .ok (.goto (-31), 3) := by decide +kernel
theorem dX3_readInto_143 : decode cX3_readInto 143 = .ok (.iload_n 2, 1) := by decide +kernel
theorem dX3_readInto_144 : decode cX3_readInto 144 = .ok (.iconst (-1), 1) := by decide +kernel
theorem dX3_readInto_145 : decode cX3_readInto 145 = .ok (.if_icmp .ne 19, 3) := by decide +kernel
theorem dX3_readInto_148 : decode cX3_readInto 148 = .ok (.aload_n 0, 1) := by decide +kernel
theorem dX3_readInto_149 : decode cX3_readInto 149 = .ok (.getfield 19, 3) := by decide +kernel
theorem dX3_readInto_152 : decode cX3_readInto 152 = .ok (.aload_n 0, 1) := by decide +kernel
theorem dX3_readInto_153 : decode cX3_readInto 153 = .ok (.getfield 15, 3) := by decide +kernel
theorem dX3_readInto_156 : decode cX3_readInto 156 = .ok (.if_icmp .ge 8, 3) := by decide +kernel
theorem dX3_readInto_159 : decode cX3_readInto 159 = .ok (.aload_n 0, 1) := by decide +kernel
theorem dX3_readInto_160 : decode cX3_readInto 160 = .ok (.getfield 19, 3) := by decide +kernel
theorem dX3_readInto_163 : decode cX3_readInto 163 = .ok (.ireturn, 1) := by decide +kernel
theorem dX3_readInto_164 : decode cX3_readInto 164 = .ok (.iload_n 2, 1) := by decide +kernel
theorem dX3_readInto_165 : decode cX3_readInto 165 = .ok (.ireturn, 1) := by decide +kernel
theorem dX3_readWeight_0 : decode cX3_readWeight 0 = .ok (.aload_n 0, 1) := by decide +kernel
theorem dX3_readWeight_1 : decode cX3_readWeight 1 = .ok (.bipush 44, 2) := by decide +kernel
theorem dX3_readWeight_3 : decode cX3_readWeight 3 = .ok (.bipush 44, 2) := by decide +kernel
theorem dX3_readWeight_5 : decode cX3_readWeight 5 = .ok (.invokevirtual 36, 3) := by decide +kernel
theorem dX3_readWeight_8 : decode cX3_readWeight 8 = .ok (.ifCond .ne 8, 3) := by decide +kernel
theorem dX3_readWeight_11 : decode cX3_readWeight 11 = .ok (.aload_n 0, 1) := by decide +kernel
theorem dX3_readWeight_12 : decode cX3_readWeight 12 = .ok (.getfield 19, 3) := by decide +kernel
theorem dX3_readWeight_15 : decode cX3_readWeight 15 = .ok (.ireturn, 1) := by decide +kernel
theorem dX3_readWeight_16 : decode cX3_readWeight 16 = .ok (.aload_n 0, 1) := by decide +kernel
theorem dX3_readWeight_17 : decode cX3_readWeight 17 = .ok (.dup, 1) := by decide +kernel
theorem dX3_readWeight_18 : decode cX3_readWeight 18 = .ok (.getfield 19, 3) := by decide +kernel
theorem dX3_readWeight_21 : decode cX3_readWeight 21 = .ok (.iconst 1, 1) := by decide +kernel
theorem dX3_readWeight_22 : decode cX3_readWeight 22 = .ok (.iadd, 1) := by decide +kernel
theorem dX3_readWeight_23 : decode cX3_readWeight 23 = .ok (.putfield 19, 3) := by decide +kernel
theorem dX3_readWeight_26 : decode cX3_readWeight 26 = .ok (.aload_n 0, 1) := by decide +kernel
theorem dX3_readWeight_27 : decode cX3_readWeight 27 = .ok (.getfield 19, 3) := by decide +kernel
theorem dX3_readWeight_30 : decode cX3_readWeight 30 = .ok (.istore_n 3, 1) := by decide +kernel
theorem dX3_readWeight_31 : decode cX3_readWeight 31 = .ok (.iconst 0, 1) := by decide +kernel
theorem dX3_readWeight_32 : decode cX3_readWeight 32 = .ok (.istore 4, 2) := by decide +kernel
theorem dX3_readWeight_34 : decode cX3_readWeight 34 = .ok (.iconst 0, 1) := by decide +kernel
theorem dX3_readWeight_35 : decode cX3_readWeight 35 = .ok (.istore 5, 2) := by decide +kernel
theorem dX3_readWeight_37 : decode cX3_readWeight 37 = .ok (.iload 5, 2) := by decide +kernel
theorem dX3_readWeight_39 : decode cX3_readWeight 39 = .ok (.iconst 5, 1) := by decide +kernel
theorem dX3_readWeight_40 : decode cX3_readWeight 40 = .ok (.if_icmp .ge 32, 3) := by decide +kernel
theorem dX3_readWeight_43 : decode cX3_readWeight 43 = .ok (.aload_n 0, 1) := by decide +kernel
theorem dX3_readWeight_44 : decode cX3_readWeight 44 = .ok (.bipush 48, 2) := by decide +kernel
theorem dX3_readWeight_46 : decode cX3_readWeight 46 = .ok (.bipush 57, 2) := by decide +kernel
theorem dX3_readWeight_48 : decode cX3_readWeight 48 = .ok (.invokevirtual 36, 3) := by decide +kernel
theorem dX3_readWeight_51 : decode cX3_readWeight 51 = .ok (.ifCond .eq 21, 3) := by decide +kernel
theorem dX3_readWeight_54 : decode cX3_readWeight 54 = .ok (.bipush 10, 2) := by decide +kernel
theorem dX3_readWeight_56 : decode cX3_readWeight 56 = .ok (.iload 4, 2) := by decide +kernel
theorem dX3_readWeight_58 : decode cX3_readWeight 58 = .ok (.imul, 1) := by decide +kernel
theorem dX3_readWeight_59 : decode cX3_readWeight 59 = .ok (.aload_n 0, 1) := by decide +kernel
theorem dX3_readWeight_60 : decode cX3_readWeight 60 = .ok (.invokevirtual 40, 3) := by decide +kernel
theorem dX3_readWeight_63 : decode cX3_readWeight 63 = .ok (.iadd, 1) := by decide +kernel
theorem dX3_readWeight_64 : decode cX3_readWeight 64 = .ok (.istore 4, 2) := by decide +kernel
theorem dX3_readWeight_66 : decode cX3_readWeight 66 = .ok (.iinc 5 1, 3) := by decide +kernel
theorem dX3_readWeight_69 : decode cX3_readWeight 69 = .ok (.goto (-32), 3) := by decide +kernel
theorem dX3_readWeight_72 : decode cX3_readWeight 72 = .ok (.aload_n 0, 1) := by decide +kernel
theorem dX3_readWeight_73 : decode cX3_readWeight 73 = .ok (.getfield 19, 3) := by decide +kernel
theorem dX3_readWeight_76 : decode cX3_readWeight 76 = .ok (.iload_n 3, 1) := by decide +kernel
theorem dX3_readWeight_77 : decode cX3_readWeight 77 = .ok (.if_icmp .eq 14, 3) := by decide +kernel
theorem dX3_readWeight_80 : decode cX3_readWeight 80 = .ok (.aload_n 0, 1) := by decide +kernel
theorem dX3_readWeight_81 : decode cX3_readWeight 81 = .ok (.bipush 48, 2) := by decide +kernel
theorem dX3_readWeight_83 : decode cX3_readWeight 83 = .ok (.bipush 57, 2) := by decide +kernel
theorem dX3_readWeight_85 : decode cX3_readWeight 85 = .ok (.invokevirtual 36, 3) := by decide +kernel
theorem dX3_readWeight_88 : decode cX3_readWeight 88 = .ok (.ifCond .eq 8, 3) := by decide +kernel
theorem dX3_readWeight_91 : decode cX3_readWeight 91 = .ok (.aload_n 0, 1) := by decide +kernel
theorem dX3_readWeight_92 : decode cX3_readWeight 92 = .ok (.getfield 19, 3) := by decide +kernel
theorem dX3_readWeight_95 : decode cX3_readWeight 95 = .ok (.ireturn, 1) := by decide +kernel
theorem dX3_readWeight_96 : decode cX3_readWeight 96 = .ok (.iload 4, 2) := by decide +kernel
theorem dX3_readWeight_98 : decode cX3_readWeight 98 = .ok (.ldc 55, 2) := by decide +kernel
theorem dX3_readWeight_100 : decode cX3_readWeight 100 = .ok (.if_icmp .le 5, 3) := by decide +kernel
theorem dX3_readWeight_103 : decode cX3_readWeight 103 = .ok (.iload_n 3, 1) := by decide +kernel
theorem dX3_readWeight_104 : decode cX3_readWeight 104 = .ok (.ireturn, 1) := by decide +kernel
theorem dX3_readWeight_105 : decode cX3_readWeight 105 = .ok (.aload_n 1, 1) := by decide +kernel
theorem dX3_readWeight_106 : decode cX3_readWeight 106 = .ok (.iload_n 2, 1) := by decide +kernel
theorem dX3_readWeight_107 : decode cX3_readWeight 107 = .ok (.iload 4, 2) := by decide +kernel
theorem dX3_readWeight_109 : decode cX3_readWeight 109 = .ok (.invokevirtual 56, 3) := by decide +kernel
theorem dX3_readWeight_112 : decode cX3_readWeight 112 = .ok (.iconst (-1), 1) := by decide +kernel
theorem dX3_readWeight_113 : decode cX3_readWeight 113 = .ok (.ireturn, 1) := by decide +kernel
theorem dX3_nextIsFrom_0 : decode cX3_nextIsFrom 0 = .ok (.aload_n 0, 1) := by decide +kernel
theorem dX3_nextIsFrom_1 : decode cX3_nextIsFrom 1 = .ok (.getfield 19, 3) := by decide +kernel
theorem dX3_nextIsFrom_4 : decode cX3_nextIsFrom 4 = .ok (.aload_n 0, 1) := by decide +kernel
theorem dX3_nextIsFrom_5 : decode cX3_nextIsFrom 5 = .ok (.getfield 15, 3) := by decide +kernel
theorem dX3_nextIsFrom_8 : decode cX3_nextIsFrom 8 = .ok (.if_icmp .lt 5, 3) := by decide +kernel
theorem dX3_nextIsFrom_11 : decode cX3_nextIsFrom 11 = .ok (.iconst 0, 1) := by decide +kernel
theorem dX3_nextIsFrom_12 : decode cX3_nextIsFrom 12 = .ok (.ireturn, 1) := by decide +kernel
theorem dX3_nextIsFrom_13 : decode cX3_nextIsFrom 13 = .ok (.aload_n 0, 1) := by decide +kernel
theorem dX3_nextIsFrom_14 : decode cX3_nextIsFrom 14 = .ok (.getfield 9, 3) := by decide +kernel
theorem dX3_nextIsFrom_17 : decode cX3_nextIsFrom 17 = .ok (.aload_n 0, 1) := by decide +kernel
theorem dX3_nextIsFrom_18 : decode cX3_nextIsFrom 18 = .ok (.getfield 19, 3) := by decide +kernel
theorem dX3_nextIsFrom_21 : decode cX3_nextIsFrom 21 = .ok (.invokestatic 60, 3) := by decide +kernel
theorem dX3_nextIsFrom_24 : decode cX3_nextIsFrom 24 = .ok (.istore_n 3, 1) := by decide +kernel
theorem dX3_nextIsFrom_25 : decode cX3_nextIsFrom 25 = .ok (.iload_n 3, 1) := by decide +kernel
theorem dX3_nextIsFrom_26 : decode cX3_nextIsFrom 26 = .ok (.iload_n 1, 1) := by decide +kernel
theorem dX3_nextIsFrom_27 : decode cX3_nextIsFrom 27 = .ok (.if_icmp .lt 12, 3) := by decide +kernel
theorem dX3_nextIsFrom_30 : decode cX3_nextIsFrom 30 = .ok (.iload_n 3, 1) := by decide +kernel
theorem dX3_nextIsFrom_31 : decode cX3_nextIsFrom 31 = .ok (.iload_n 2, 1) := by decide +kernel
theorem dX3_nextIsFrom_32 : decode cX3_nextIsFrom 32 = .ok (.if_icmp .gt 7, 3) := by decide +kernel
theorem dX3_nextIsFrom_35 : decode cX3_nextIsFrom 35 = .ok (.iconst 1, 1) := by decide +kernel
theorem dX3_nextIsFrom_36 : decode cX3_nextIsFrom 36 = .ok (.goto 4, 3) := by decide +kernel
theorem dX3_nextIsFrom_39 : decode cX3_nextIsFrom 39 = .ok (.iconst 0, 1) := by decide +kernel
theorem dX3_nextIsFrom_40 : decode cX3_nextIsFrom 40 = .ok (.ireturn, 1) := by decide +kernel
theorem dX3_takeDigit_0 : decode cX3_takeDigit 0 = .ok (.aload_n 0, 1) := by decide +kernel
theorem dX3_takeDigit_1 : decode cX3_takeDigit 1 = .ok (.getfield 9, 3) := by decide +kernel
theorem dX3_takeDigit_4 : decode cX3_takeDigit 4 = .ok (.aload_n 0, 1) := by decide +kernel
theorem dX3_takeDigit_5 : decode cX3_takeDigit 5 = .ok (.getfield 19, 3) := by decide +kernel
theorem dX3_takeDigit_8 : decode cX3_takeDigit 8 = .ok (.invokestatic 60, 3) := by decide +kernel
theorem dX3_takeDigit_11 : decode cX3_takeDigit 11 = .ok (.bipush 48, 2) := by decide +kernel
theorem dX3_takeDigit_13 : decode cX3_takeDigit 13 = .ok (.isub, 1) := by decide +kernel
theorem dX3_takeDigit_14 : decode cX3_takeDigit 14 = .ok (.istore_n 1, 1) := by decide +kernel
theorem dX3_takeDigit_15 : decode cX3_takeDigit 15 = .ok (.aload_n 0, 1) := by decide +kernel
theorem dX3_takeDigit_16 : decode cX3_takeDigit 16 = .ok (.dup, 1) := by decide +kernel
theorem dX3_takeDigit_17 : decode cX3_takeDigit 17 = .ok (.getfield 19, 3) := by decide +kernel
theorem dX3_takeDigit_20 : decode cX3_takeDigit 20 = .ok (.iconst 1, 1) := by decide +kernel
theorem dX3_takeDigit_21 : decode cX3_takeDigit 21 = .ok (.iadd, 1) := by decide +kernel
theorem dX3_takeDigit_22 : decode cX3_takeDigit 22 = .ok (.putfield 19, 3) := by decide +kernel
theorem dX3_takeDigit_25 : decode cX3_takeDigit 25 = .ok (.iload_n 1, 1) := by decide +kernel
theorem dX3_takeDigit_26 : decode cX3_takeDigit 26 = .ok (.ireturn, 1) := by decide +kernel
theorem dJ9_floorMod_7cf53_0 : decode cJ9_floorMod_7cf53 0 = .ok (.iload_n 0, 1) := by decide +kernel
theorem dJ9_floorMod_7cf53_1 : decode cJ9_floorMod_7cf53 1 = .ok (.iload_n 1, 1) := by decide +kernel
theorem dJ9_floorMod_7cf53_2 : decode cJ9_floorMod_7cf53 2 = .ok (.irem, 1) := by decide +kernel
theorem dJ9_floorMod_7cf53_3 : decode cJ9_floorMod_7cf53 3 = .ok (.istore_n 2, 1) := by decide +kernel
theorem dJ9_floorMod_7cf53_4 : decode cJ9_floorMod_7cf53 4 = .ok (.iload_n 0, 1) := by decide +kernel
theorem dJ9_floorMod_7cf53_5 : decode cJ9_floorMod_7cf53 5 = .ok (.iload_n 1, 1) := by decide +kernel
theorem dJ9_floorMod_7cf53_6 : decode cJ9_floorMod_7cf53 6 = .ok (.ixor, 1) := by decide +kernel
theorem dJ9_floorMod_7cf53_7 : decode cJ9_floorMod_7cf53 7 = .ok (.ifCond .ge 11, 3) := by decide +kernel
theorem dJ9_floorMod_7cf53_10 : decode cJ9_floorMod_7cf53 10 = .ok (.iload_n 2, 1) := by decide +kernel
theorem dJ9_floorMod_7cf53_11 : decode cJ9_floorMod_7cf53 11 = .ok (.ifCond .eq 7, 3) := by decide +kernel
theorem dJ9_floorMod_7cf53_14 : decode cJ9_floorMod_7cf53 14 = .ok (.iload_n 2, 1) := by decide +kernel
theorem dJ9_floorMod_7cf53_15 : decode cJ9_floorMod_7cf53 15 = .ok (.iload_n 1, 1) := by decide +kernel
theorem dJ9_floorMod_7cf53_16 : decode cJ9_floorMod_7cf53 16 = .ok (.iadd, 1) := by decide +kernel
theorem dJ9_floorMod_7cf53_17 : decode cJ9_floorMod_7cf53 17 = .ok (.ireturn, 1) := by decide +kernel
theorem dJ9_floorMod_7cf53_18 : decode cJ9_floorMod_7cf53 18 = .ok (.iload_n 2, 1) := by decide +kernel
theorem dJ9_floorMod_7cf53_19 : decode cJ9_floorMod_7cf53 19 = .ok (.ireturn, 1) := by decide +kernel
theorem dJ9_min_7cf53_0 : decode cJ9_min_7cf53 0 = .ok (.iload_n 0, 1) := by decide +kernel
theorem dJ9_min_7cf53_1 : decode cJ9_min_7cf53 1 = .ok (.iload_n 1, 1) := by decide +kernel
theorem dJ9_min_7cf53_2 : decode cJ9_min_7cf53 2 = .ok (.if_icmp .gt 7, 3) := by decide +kernel
theorem dJ9_min_7cf53_5 : decode cJ9_min_7cf53 5 = .ok (.iload_n 0, 1) := by decide +kernel
theorem dJ9_min_7cf53_6 : decode cJ9_min_7cf53 6 = .ok (.goto 4, 3) := by decide +kernel
theorem dJ9_min_7cf53_9 : decode cJ9_min_7cf53 9 = .ok (.iload_n 1, 1) := by decide +kernel
theorem dJ9_min_7cf53_10 : decode cJ9_min_7cf53 10 = .ok (.ireturn, 1) := by decide +kernel
