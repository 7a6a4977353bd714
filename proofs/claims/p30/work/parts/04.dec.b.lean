theorem dX4_init_0 : decode cX4_init 0 = .ok (.aload_n 0, 1) := by decide +kernel
theorem dX4_init_1 : decode cX4_init 1 = .ok (.invokespecial 1, 3) := by decide +kernel
theorem dX4_init_4 : decode cX4_init 4 = .ok (.aload_n 0, 1) := by decide +kernel
theorem dX4_init_5 : decode cX4_init 5 = .ok (.new 7, 3) := by decide +kernel
theorem dX4_init_8 : decode cX4_init 8 = .ok (.dup, 1) := by decide +kernel
theorem dX4_init_9 : decode cX4_init 9 = .ok (.invokespecial 9, 3) := by decide +kernel
theorem dX4_init_12 : decode cX4_init 12 = .ok (.putfield 10, 3) := by decide +kernel
theorem dX4_init_15 : decode cX4_init 15 = .ok (.aload_n 0, 1) := by decide +kernel
theorem dX4_init_16 : decode cX4_init 16 = .ok (.new 7, 3) := by decide +kernel
theorem dX4_init_19 : decode cX4_init 19 = .ok (.dup, 1) := by decide +kernel
theorem dX4_init_20 : decode cX4_init 20 = .ok (.invokespecial 9, 3) := by decide +kernel
theorem dX4_init_23 : decode cX4_init 23 = .ok (.putfield 16, 3) := by decide +kernel
theorem dX4_init_26 : decode cX4_init 26 = .ok (.aload_n 0, 1) := by decide +kernel
theorem dX4_init_27 : decode cX4_init 27 = .ok (.iconst 4, 1) := by decide +kernel
theorem dX4_init_28 : decode cX4_init 28 = .ok (.anewarray 7, 3) := by decide +kernel
theorem dX4_init_31 : decode cX4_init 31 = .ok (.putfield 19, 3) := by decide +kernel
theorem dX4_init_34 : decode cX4_init 34 = .ok (.aload_n 0, 1) := by decide +kernel
theorem dX4_init_35 : decode cX4_init 35 = .ok (.iconst 0, 1) := by decide +kernel
theorem dX4_init_36 : decode cX4_init 36 = .ok (.putfield 23, 3) := by decide +kernel
theorem dX4_init_39 : decode cX4_init 39 = .ok (.aload_n 0, 1) := by decide +kernel
theorem dX4_init_40 : decode cX4_init 40 = .ok (.iconst 0, 1) := by decide +kernel
theorem dX4_init_41 : decode cX4_init 41 = .ok (.putfield 27, 3) := by decide +kernel
theorem dX4_init_44 : decode cX4_init 44 = .ok (.aload_n 0, 1) := by decide +kernel
theorem dX4_init_45 : decode cX4_init 45 = .ok (.new 30, 3) := by decide +kernel
theorem dX4_init_48 : decode cX4_init 48 = .ok (.dup, 1) := by decide +kernel
theorem dX4_init_49 : decode cX4_init 49 = .ok (.invokespecial 32, 3) := by decide +kernel
theorem dX4_init_52 : decode cX4_init 52 = .ok (.putfield 33, 3) := by decide +kernel
theorem dX4_init_55 : decode cX4_init 55 = .ok (.iconst 0, 1) := by decide +kernel
theorem dX4_init_56 : decode cX4_init 56 = .ok (.istore_n 1, 1) := by decide +kernel
theorem dX4_init_57 : decode cX4_init 57 = .ok (.iload_n 1, 1) := by decide +kernel
theorem dX4_init_58 : decode cX4_init 58 = .ok (.aload_n 0, 1) := by decide +kernel
theorem dX4_init_59 : decode cX4_init 59 = .ok (.getfield 19, 3) := by decide +kernel
theorem dX4_init_62 : decode cX4_init 62 = .ok (.arraylength, 1) := by decide +kernel
theorem dX4_init_63 : decode cX4_init 63 = .ok (.if_icmp .ge 22, 3) := by decide +kernel
theorem dX4_init_66 : decode cX4_init 66 = .ok (.aload_n 0, 1) := by decide +kernel
theorem dX4_init_67 : decode cX4_init 67 = .ok (.getfield 19, 3) := by decide +kernel
theorem dX4_init_70 : decode cX4_init 70 = .ok (.iload_n 1, 1) := by decide +kernel
theorem dX4_init_71 : decode cX4_init 71 = .ok (.new 7, 3) := by decide +kernel
theorem dX4_init_74 : decode cX4_init 74 = .ok (.dup, 1) := by decide +kernel
theorem dX4_init_75 : decode cX4_init 75 = .ok (.invokespecial 9, 3) := by decide +kernel
theorem dX4_init_78 : decode cX4_init 78 = .ok (.aastore, 1) := by decide +kernel
theorem dX4_init_79 : decode cX4_init 79 = .ok (.iinc 1 1, 3) := by decide +kernel
theorem dX4_init_82 : decode cX4_init 82 = .ok (.goto (-25), 3) := by decide +kernel
theorem dX4_init_85 : decode cX4_init 85 = .ok (.return_, 1) := by decide +kernel
theorem dX4_setWeight_0 : decode cX4_setWeight 0 = .ok (.iload_n 1, 1) := by decide +kernel
theorem dX4_setWeight_1 : decode cX4_setWeight 1 = .ok (.invokestatic 37, 3) := by decide +kernel
theorem dX4_setWeight_4 : decode cX4_setWeight 4 = .ok (.iload_n 2, 1) := by decide +kernel
theorem dX4_setWeight_5 : decode cX4_setWeight 5 = .ok (.iconst 0, 1) := by decide +kernel
theorem dX4_setWeight_6 : decode cX4_setWeight 6 = .ok (.ldc 41, 2) := by decide +kernel
theorem dX4_setWeight_8 : decode cX4_setWeight 8 = .ok (.invokestatic 42, 3) := by decide +kernel
theorem dX4_setWeight_11 : decode cX4_setWeight 11 = .ok (.aload_n 0, 1) := by decide +kernel
theorem dX4_setWeight_12 : decode cX4_setWeight 12 = .ok (.invokevirtual 46, 3) := by decide +kernel
theorem dX4_setWeight_15 : decode cX4_setWeight 15 = .ok (.aload_n 0, 1) := by decide +kernel
theorem dX4_setWeight_16 : decode cX4_setWeight 16 = .ok (.getfield 10, 3) := by decide +kernel
theorem dX4_setWeight_19 : decode cX4_setWeight 19 = .ok (.iload_n 1, 1) := by decide +kernel
theorem dX4_setWeight_20 : decode cX4_setWeight 20 = .ok (.invokevirtual 49, 3) := by decide +kernel
theorem dX4_setWeight_23 : decode cX4_setWeight 23 = .ok (.istore_n 3, 1) := by decide +kernel
theorem dX4_setWeight_24 : decode cX4_setWeight 24 = .ok (.aload_n 0, 1) := by decide +kernel
theorem dX4_setWeight_25 : decode cX4_setWeight 25 = .ok (.getfield 10, 3) := by decide +kernel
theorem dX4_setWeight_28 : decode cX4_setWeight 28 = .ok (.iload_n 1, 1) := by decide +kernel
theorem dX4_setWeight_29 : decode cX4_setWeight 29 = .ok (.iload_n 2, 1) := by decide +kernel
theorem dX4_setWeight_30 : decode cX4_setWeight 30 = .ok (.invokevirtual 53, 3) := by decide +kernel
theorem dX4_setWeight_33 : decode cX4_setWeight 33 = .ok (.iload_n 3, 1) := by decide +kernel
theorem dX4_setWeight_34 : decode cX4_setWeight 34 = .ok (.ireturn, 1) := by decide +kernel
theorem dX4_setFriction_0 : decode cX4_setFriction 0 = .ok (.iload_n 1, 1) := by decide +kernel
theorem dX4_setFriction_1 : decode cX4_setFriction 1 = .ok (.iconst 0, 1) := by decide +kernel
theorem dX4_setFriction_2 : decode cX4_setFriction 2 = .ok (.bipush 30, 2) := by decide +kernel
theorem dX4_setFriction_4 : decode cX4_setFriction 4 = .ok (.invokestatic 42, 3) := by decide +kernel
theorem dX4_setFriction_7 : decode cX4_setFriction 7 = .ok (.aload_n 0, 1) := by decide +kernel
theorem dX4_setFriction_8 : decode cX4_setFriction 8 = .ok (.invokevirtual 46, 3) := by decide +kernel
theorem dX4_setFriction_11 : decode cX4_setFriction 11 = .ok (.aload_n 0, 1) := by decide +kernel
theorem dX4_setFriction_12 : decode cX4_setFriction 12 = .ok (.getfield 10, 3) := by decide +kernel
theorem dX4_setFriction_15 : decode cX4_setFriction 15 = .ok (.getfield 57, 3) := by decide +kernel
theorem dX4_setFriction_18 : decode cX4_setFriction 18 = .ok (.getfield 61, 3) := by decide +kernel
theorem dX4_setFriction_21 : decode cX4_setFriction 21 = .ok (.istore_n 2, 1) := by decide +kernel
theorem dX4_setFriction_22 : decode cX4_setFriction 22 = .ok (.aload_n 0, 1) := by decide +kernel
theorem dX4_setFriction_23 : decode cX4_setFriction 23 = .ok (.getfield 10, 3) := by decide +kernel
theorem dX4_setFriction_26 : decode cX4_setFriction 26 = .ok (.getfield 57, 3) := by decide +kernel
theorem dX4_setFriction_29 : decode cX4_setFriction 29 = .ok (.iload_n 1, 1) := by decide +kernel
theorem dX4_setFriction_30 : decode cX4_setFriction 30 = .ok (.putfield 61, 3) := by decide +kernel
theorem dX4_setFriction_33 : decode cX4_setFriction 33 = .ok (.iload_n 2, 1) := by decide +kernel
theorem dX4_setFriction_34 : decode cX4_setFriction 34 = .ok (.ireturn, 1) := by decide +kernel
theorem dX4_setLength_0 : decode cX4_setLength 0 = .ok (.iload_n 1, 1) := by decide +kernel
theorem dX4_setLength_1 : decode cX4_setLength 1 = .ok (.sipush 1000, 3) := by decide +kernel
theorem dX4_setLength_4 : decode cX4_setLength 4 = .ok (.ldc 66, 2) := by decide +kernel
theorem dX4_setLength_6 : decode cX4_setLength 6 = .ok (.invokestatic 42, 3) := by decide +kernel
theorem dX4_setLength_9 : decode cX4_setLength 9 = .ok (.aload_n 0, 1) := by decide +kernel
theorem dX4_setLength_10 : decode cX4_setLength 10 = .ok (.getfield 16, 3) := by decide +kernel
theorem dX4_setLength_13 : decode cX4_setLength 13 = .ok (.aload_n 0, 1) := by decide +kernel
theorem dX4_setLength_14 : decode cX4_setLength 14 = .ok (.getfield 10, 3) := by decide +kernel
theorem dX4_setLength_17 : decode cX4_setLength 17 = .ok (.invokevirtual 67, 3) := by decide +kernel
theorem dX4_setLength_20 : decode cX4_setLength 20 = .ok (.aload_n 0, 1) := by decide +kernel
theorem dX4_setLength_21 : decode cX4_setLength 21 = .ok (.getfield 16, 3) := by decide +kernel
theorem dX4_setLength_24 : decode cX4_setLength 24 = .ok (.iload_n 1, 1) := by decide +kernel
theorem dX4_setLength_25 : decode cX4_setLength 25 = .ok (.putfield 71, 3) := by decide +kernel
theorem dX4_setLength_28 : decode cX4_setLength 28 = .ok (.aload_n 0, 1) := by decide +kernel
theorem dX4_setLength_29 : decode cX4_setLength 29 = .ok (.invokevirtual 74, 3) := by decide +kernel
theorem dX4_setLength_32 : decode cX4_setLength 32 = .ok (.aload_n 0, 1) := by decide +kernel
theorem dX4_setLength_33 : decode cX4_setLength 33 = .ok (.invokevirtual 77, 3) := by decide +kernel
theorem dX4_setLength_36 : decode cX4_setLength 36 = .ok (.aload_n 0, 1) := by decide +kernel
theorem dX4_setLength_37 : decode cX4_setLength 37 = .ok (.getfield 10, 3) := by decide +kernel
theorem dX4_setLength_40 : decode cX4_setLength 40 = .ok (.invokevirtual 80, 3) := by decide +kernel
theorem dX4_setLength_43 : decode cX4_setLength 43 = .ok (.ireturn, 1) := by decide +kernel
theorem dX4_addPulley_0 : decode cX4_addPulley 0 = .ok (.iload_n 1, 1) := by decide +kernel
theorem dX4_addPulley_1 : decode cX4_addPulley 1 = .ok (.invokestatic 37, 3) := by decide +kernel
theorem dX4_addPulley_4 : decode cX4_addPulley 4 = .ok (.aload_n 0, 1) := by decide +kernel
theorem dX4_addPulley_5 : decode cX4_addPulley 5 = .ok (.getfield 10, 3) := by decide +kernel
theorem dX4_addPulley_8 : decode cX4_addPulley 8 = .ok (.getfield 57, 3) := by decide +kernel
theorem dX4_addPulley_11 : decode cX4_addPulley 11 = .ok (.getfield 84, 3) := by decide +kernel
theorem dX4_addPulley_14 : decode cX4_addPulley 14 = .ok (.bipush 10, 2) := by decide +kernel
theorem dX4_addPulley_16 : decode cX4_addPulley 16 = .ok (.if_icmp .lt 13, 3) := by decide +kernel
theorem dX4_addPulley_19 : decode cX4_addPulley 19 = .ok (.new 87, 3) := by decide +kernel
theorem dX4_addPulley_22 : decode cX4_addPulley 22 = .ok (.dup, 1) := by decide +kernel
theorem dX4_addPulley_23 : decode cX4_addPulley 23 = .ok (.ldc 89, 2) := by decide +kernel
theorem dX4_addPulley_25 : decode cX4_addPulley 25 = .ok (.invokespecial 91, 3) := by decide +kernel
theorem dX4_addPulley_28 : decode cX4_addPulley 28 = .ok (.athrow, 1) := by decide +kernel
theorem dX4_addPulley_29 : decode cX4_addPulley 29 = .ok (.aload_n 0, 1) := by decide +kernel
theorem dX4_addPulley_30 : decode cX4_addPulley 30 = .ok (.getfield 16, 3) := by decide +kernel
theorem dX4_addPulley_33 : decode cX4_addPulley 33 = .ok (.aload_n 0, 1) := by decide +kernel
theorem dX4_addPulley_34 : decode cX4_addPulley 34 = .ok (.getfield 10, 3) := by decide +kernel
theorem dX4_addPulley_37 : decode cX4_addPulley 37 = .ok (.invokevirtual 67, 3) := by decide +kernel
theorem dX4_addPulley_40 : decode cX4_addPulley 40 = .ok (.aload_n 0, 1) := by decide +kernel
theorem dX4_addPulley_41 : decode cX4_addPulley 41 = .ok (.getfield 16, 3) := by decide +kernel
theorem dX4_addPulley_44 : decode cX4_addPulley 44 = .ok (.getfield 57, 3) := by decide +kernel
theorem dX4_addPulley_47 : decode cX4_addPulley 47 = .ok (.iload_n 1, 1) := by decide +kernel
theorem dX4_addPulley_48 : decode cX4_addPulley 48 = .ok (.invokevirtual 94, 3) := by decide +kernel
theorem dX4_addPulley_51 : decode cX4_addPulley 51 = .ok (.aload_n 0, 1) := by decide +kernel
theorem dX4_addPulley_52 : decode cX4_addPulley 52 = .ok (.invokevirtual 74, 3) := by decide +kernel
theorem dX4_addPulley_55 : decode cX4_addPulley 55 = .ok (.aload_n 0, 1) := by decide +kernel
theorem dX4_addPulley_56 : decode cX4_addPulley 56 = .ok (.invokevirtual 77, 3) := by decide +kernel
theorem dX4_addPulley_59 : decode cX4_addPulley 59 = .ok (.aload_n 0, 1) := by decide +kernel
theorem dX4_addPulley_60 : decode cX4_addPulley 60 = .ok (.getfield 10, 3) := by decide +kernel
theorem dX4_addPulley_63 : decode cX4_addPulley 63 = .ok (.getfield 57, 3) := by decide +kernel
theorem dX4_addPulley_66 : decode cX4_addPulley 66 = .ok (.getfield 84, 3) := by decide +kernel
theorem dX4_addPulley_69 : decode cX4_addPulley 69 = .ok (.ireturn, 1) := by decide +kernel
theorem dX4_takePulley_0 : decode cX4_takePulley 0 = .ok (.aload_n 0, 1) := by decide +kernel
theorem dX4_takePulley_1 : decode cX4_takePulley 1 = .ok (.getfield 10, 3) := by decide +kernel
theorem dX4_takePulley_4 : decode cX4_takePulley 4 = .ok (.getfield 57, 3) := by decide +kernel
theorem dX4_takePulley_7 : decode cX4_takePulley 7 = .ok (.getfield 84, 3) := by decide +kernel
theorem dX4_takePulley_10 : decode cX4_takePulley 10 = .ok (.ifCond .gt 13, 3) := by decide +kernel
theorem dX4_takePulley_13 : decode cX4_takePulley 13 = .ok (.new 87, 3) := by decide +kernel
theorem dX4_takePulley_16 : decode cX4_takePulley 16 = .ok (.dup, 1) := by decide +kernel
theorem dX4_takePulley_17 : decode cX4_takePulley 17 = .ok (.ldc 97, 2) := by decide +kernel
theorem dX4_takePulley_19 : decode cX4_takePulley 19 = .ok (.invokespecial 91, 3) := by decide +kernel
theorem dX4_takePulley_22 : decode cX4_takePulley 22 = .ok (.athrow, 1) := by decide +kernel
theorem dX4_takePulley_23 : decode cX4_takePulley 23 = .ok (.aload_n 0, 1) := by decide +kernel
theorem dX4_takePulley_24 : decode cX4_takePulley 24 = .ok (.invokevirtual 46, 3) := by decide +kernel
theorem dX4_takePulley_27 : decode cX4_takePulley 27 = .ok (.aload_n 0, 1) := by decide +kernel
theorem dX4_takePulley_28 : decode cX4_takePulley 28 = .ok (.getfield 10, 3) := by decide +kernel
theorem dX4_takePulley_31 : decode cX4_takePulley 31 = .ok (.getfield 57, 3) := by decide +kernel
theorem dX4_takePulley_34 : decode cX4_takePulley 34 = .ok (.invokevirtual 99, 3) := by decide +kernel
theorem dX4_takePulley_37 : decode cX4_takePulley 37 = .ok (.ireturn, 1) := by decide +kernel
theorem dX4_setEnd_0 : decode cX4_setEnd 0 = .ok (.iload_n 1, 1) := by decide +kernel
theorem dX4_setEnd_1 : decode cX4_setEnd 1 = .ok (.ifCond .lt 8, 3) := by decide +kernel
theorem dX4_setEnd_4 : decode cX4_setEnd 4 = .ok (.iload_n 1, 1) := by decide +kernel
theorem dX4_setEnd_5 : decode cX4_setEnd 5 = .ok (.iconst 4, 1) := by decide +kernel
theorem dX4_setEnd_6 : decode cX4_setEnd 6 = .ok (.if_icmp .le 13, 3) := by decide +kernel
theorem dX4_setEnd_9 : decode cX4_setEnd 9 = .ok (.new 102, 3) := by decide +kernel
theorem dX4_setEnd_12 : decode cX4_setEnd 12 = .ok (.dup, 1) := by decide +kernel
theorem dX4_setEnd_13 : decode cX4_setEnd 13 = .ok (.ldc 104, 2) := by decide +kernel
theorem dX4_setEnd_15 : decode cX4_setEnd 15 = .ok (.invokespecial 106, 3) := by decide +kernel
theorem dX4_setEnd_18 : decode cX4_setEnd 18 = .ok (.athrow, 1) := by decide +kernel
theorem dX4_setEnd_19 : decode cX4_setEnd 19 = .ok (.aload_n 0, 1) := by decide +kernel
theorem dX4_setEnd_20 : decode cX4_setEnd 20 = .ok (.getfield 10, 3) := by decide +kernel
theorem dX4_setEnd_23 : decode cX4_setEnd 23 = .ok (.getfield 57, 3) := by decide +kernel
theorem dX4_setEnd_26 : decode cX4_setEnd 26 = .ok (.getfield 107, 3) := by decide +kernel
theorem dX4_setEnd_29 : decode cX4_setEnd 29 = .ok (.istore_n 2, 1) := by decide +kernel
theorem dX4_setEnd_30 : decode cX4_setEnd 30 = .ok (.aload_n 0, 1) := by decide +kernel
theorem dX4_setEnd_31 : decode cX4_setEnd 31 = .ok (.getfield 16, 3) := by decide +kernel
theorem dX4_setEnd_34 : decode cX4_setEnd 34 = .ok (.aload_n 0, 1) := by decide +kernel
theorem dX4_setEnd_35 : decode cX4_setEnd 35 = .ok (.getfield 10, 3) := by decide +kernel
theorem dX4_setEnd_38 : decode cX4_setEnd 38 = .ok (.invokevirtual 67, 3) := by decide +kernel
theorem dX4_setEnd_41 : decode cX4_setEnd 41 = .ok (.aload_n 0, 1) := by decide +kernel
theorem dX4_setEnd_42 : decode cX4_setEnd 42 = .ok (.getfield 16, 3) := by decide +kernel
theorem dX4_setEnd_45 : decode cX4_setEnd 45 = .ok (.getfield 57, 3) := by decide +kernel
theorem dX4_setEnd_48 : decode cX4_setEnd 48 = .ok (.iload_n 1, 1) := by decide +kernel
theorem dX4_setEnd_49 : decode cX4_setEnd 49 = .ok (.putfield 107, 3) := by decide +kernel
theorem dX4_setEnd_52 : decode cX4_setEnd 52 = .ok (.aload_n 0, 1) := by decide +kernel
theorem dX4_setEnd_53 : decode cX4_setEnd 53 = .ok (.invokevirtual 74, 3) := by decide +kernel
theorem dX4_setEnd_56 : decode cX4_setEnd 56 = .ok (.aload_n 0, 1) := by decide +kernel
theorem dX4_setEnd_57 : decode cX4_setEnd 57 = .ok (.invokevirtual 77, 3) := by decide +kernel
theorem dX4_setEnd_60 : decode cX4_setEnd 60 = .ok (.iload_n 2, 1) := by decide +kernel
theorem dX4_setEnd_61 : decode cX4_setEnd 61 = .ok (.ireturn, 1) := by decide +kernel
theorem dX4_haul_0 : decode cX4_haul 0 = .ok (.iload_n 1, 1) := by decide +kernel
theorem dX4_haul_1 : decode cX4_haul 1 = .ok (.iconst 0, 1) := by decide +kernel
theorem dX4_haul_2 : decode cX4_haul 2 = .ok (.ldc 110, 2) := by decide +kernel
theorem dX4_haul_4 : decode cX4_haul 4 = .ok (.invokestatic 42, 3) := by decide +kernel
theorem dX4_haul_7 : decode cX4_haul 7 = .ok (.iload_n 2, 1) := by decide +kernel
theorem dX4_haul_8 : decode cX4_haul 8 = .ok (.iconst 0, 1) := by decide +kernel
theorem dX4_haul_9 : decode cX4_haul 9 = .ok (.ldc 111, 2) := by decide +kernel
theorem dX4_haul_11 : decode cX4_haul 11 = .ok (.invokestatic 42, 3) := by decide +kernel
theorem dX4_haul_14 : decode cX4_haul 14 = .ok (.aload_n 0, 1) := by decide +kernel
theorem dX4_haul_15 : decode cX4_haul 15 = .ok (.invokevirtual 46, 3) := by decide +kernel
theorem dX4_haul_18 : decode cX4_haul 18 = .ok (.aload_n 0, 1) := by decide +kernel
theorem dX4_haul_19 : decode cX4_haul 19 = .ok (.getfield 10, 3) := by decide +kernel
theorem dX4_haul_22 : decode cX4_haul 22 = .ok (.iload_n 1, 1) := by decide +kernel
theorem dX4_haul_23 : decode cX4_haul 23 = .ok (.iload_n 2, 1) := by decide +kernel
theorem dX4_haul_24 : decode cX4_haul 24 = .ok (.invokevirtual 112, 3) := by decide +kernel
theorem dX4_haul_27 : decode cX4_haul 27 = .ok (.ireturn, 1) := by decide +kernel
theorem dX4_letOut_0 : decode cX4_letOut 0 = .ok (.iload_n 1, 1) := by decide +kernel
theorem dX4_letOut_1 : decode cX4_letOut 1 = .ok (.iconst 0, 1) := by decide +kernel
theorem dX4_letOut_2 : decode cX4_letOut 2 = .ok (.ldc 110, 2) := by decide +kernel
theorem dX4_letOut_4 : decode cX4_letOut 4 = .ok (.invokestatic 42, 3) := by decide +kernel
theorem dX4_letOut_7 : decode cX4_letOut 7 = .ok (.iload_n 2, 1) := by decide +kernel
theorem dX4_letOut_8 : decode cX4_letOut 8 = .ok (.iconst 0, 1) := by decide +kernel
theorem dX4_letOut_9 : decode cX4_letOut 9 = .ok (.ldc 111, 2) := by decide +kernel
theorem dX4_letOut_11 : decode cX4_letOut 11 = .ok (.invokestatic 42, 3) := by decide +kernel
theorem dX4_letOut_14 : decode cX4_letOut 14 = .ok (.aload_n 0, 1) := by decide +kernel
theorem dX4_letOut_15 : decode cX4_letOut 15 = .ok (.invokevirtual 46, 3) := by decide +kernel
theorem dX4_letOut_18 : decode cX4_letOut 18 = .ok (.aload_n 0, 1) := by decide +kernel
theorem dX4_letOut_19 : decode cX4_letOut 19 = .ok (.getfield 10, 3) := by decide +kernel
theorem dX4_letOut_22 : decode cX4_letOut 22 = .ok (.iload_n 1, 1) := by decide +kernel
theorem dX4_letOut_23 : decode cX4_letOut 23 = .ok (.iload_n 2, 1) := by decide +kernel
theorem dX4_letOut_24 : decode cX4_letOut 24 = .ok (.invokevirtual 116, 3) := by decide +kernel
theorem dX4_letOut_27 : decode cX4_letOut 27 = .ok (.ireturn, 1) := by decide +kernel
theorem dX4_block_0 : decode cX4_block 0 = .ok (.iload_n 1, 1) := by decide +kernel
theorem dX4_block_1 : decode cX4_block 1 = .ok (.invokestatic 37, 3) := by decide +kernel
theorem dX4_block_4 : decode cX4_block 4 = .ok (.iload_n 2, 1) := by decide +kernel
theorem dX4_block_5 : decode cX4_block 5 = .ok (.tableswitch 130 0 6 #[43, 52, 61, 73, 85, 95, 105], 43) := by decide +kernel
theorem dX4_block_48 : decode cX4_block 48 = .ok (.aload_n 0, 1) := by decide +kernel
theorem dX4_block_49 : decode cX4_block 49 = .ok (.getfield 10, 3) := by decide +kernel
theorem dX4_block_52 : decode cX4_block 52 = .ok (.iload_n 1, 1) := by decide +kernel
theorem dX4_block_53 : decode cX4_block 53 = .ok (.invokevirtual 49, 3) := by decide +kernel
theorem dX4_block_56 : decode cX4_block 56 = .ok (.ireturn, 1) := by decide +kernel
theorem dX4_block_57 : decode cX4_block 57 = .ok (.aload_n 0, 1) := by decide +kernel
theorem dX4_block_58 : decode cX4_block 58 = .ok (.getfield 10, 3) := by decide +kernel
theorem dX4_block_61 : decode cX4_block 61 = .ok (.iload_n 1, 1) := by decide +kernel
theorem dX4_block_62 : decode cX4_block 62 = .ok (.invokevirtual 119, 3) := by decide +kernel
theorem dX4_block_65 : decode cX4_block 65 = .ok (.ireturn, 1) := by decide +kernel
theorem dX4_block_66 : decode cX4_block 66 = .ok (.aload_n 0, 1) := by decide +kernel
theorem dX4_block_67 : decode cX4_block 67 = .ok (.getfield 10, 3) := by decide +kernel
theorem dX4_block_70 : decode cX4_block 70 = .ok (.getfield 57, 3) := by decide +kernel
theorem dX4_block_73 : decode cX4_block 73 = .ok (.iload_n 1, 1) := by decide +kernel
theorem dX4_block_74 : decode cX4_block 74 = .ok (.invokevirtual 122, 3) := by decide +kernel
theorem dX4_block_77 : decode cX4_block 77 = .ok (.ireturn, 1) := by decide +kernel
theorem dX4_block_78 : decode cX4_block 78 = .ok (.aload_n 0, 1) := by decide +kernel
theorem dX4_block_79 : decode cX4_block 79 = .ok (.getfield 10, 3) := by decide +kernel
theorem dX4_block_82 : decode cX4_block 82 = .ok (.getfield 57, 3) := by decide +kernel
theorem dX4_block_85 : decode cX4_block 85 = .ok (.iload_n 1, 1) := by decide +kernel
theorem dX4_block_86 : decode cX4_block 86 = .ok (.invokevirtual 125, 3) := by decide +kernel
theorem dX4_block_89 : decode cX4_block 89 = .ok (.ireturn, 1) := by decide +kernel
theorem dX4_block_90 : decode cX4_block 90 = .ok (.aload_n 0, 1) := by decide +kernel
theorem dX4_block_91 : decode cX4_block 91 = .ok (.getfield 10, 3) := by decide +kernel
theorem dX4_block_94 : decode cX4_block 94 = .ok (.iload_n 1, 1) := by decide +kernel
theorem dX4_block_95 : decode cX4_block 95 = .ok (.iconst 1, 1) := by decide +kernel
theorem dX4_block_96 : decode cX4_block 96 = .ok (.invokevirtual 128, 3) := by decide +kernel
theorem dX4_block_99 : decode cX4_block 99 = .ok (.ireturn, 1) := by decide +kernel
theorem dX4_block_100 : decode cX4_block 100 = .ok (.aload_n 0, 1) := by decide +kernel
theorem dX4_block_101 : decode cX4_block 101 = .ok (.getfield 10, 3) := by decide +kernel
theorem dX4_block_104 : decode cX4_block 104 = .ok (.iload_n 1, 1) := by decide +kernel
theorem dX4_block_105 : decode cX4_block 105 = .ok (.iconst 0, 1) := by decide +kernel
theorem dX4_block_106 : decode cX4_block 106 = .ok (.invokevirtual 128, 3) := by decide +kernel
theorem dX4_block_109 : decode cX4_block 109 = .ok (.ireturn, 1) := by decide +kernel
theorem dX4_block_110 : decode cX4_block 110 = .ok (.aload_n 0, 1) := by decide +kernel
theorem dX4_block_111 : decode cX4_block 111 = .ok (.getfield 10, 3) := by decide +kernel
theorem dX4_block_114 : decode cX4_block 114 = .ok (.getfield 57, 3) := by decide +kernel
theorem dX4_block_117 : decode cX4_block 117 = .ok (.iload_n 1, 1) := by decide +kernel
theorem dX4_block_118 : decode cX4_block 118 = .ok (.invokevirtual 122, 3) := by decide +kernel
theorem dX4_block_121 : decode cX4_block 121 = .ok (.sipush 9000, 3) := by decide +kernel
theorem dX4_block_124 : decode cX4_block 124 = .ok (.aload_n 0, 1) := by decide +kernel
theorem dX4_block_125 : decode cX4_block 125 = .ok (.getfield 10, 3) := by decide +kernel
theorem dX4_block_128 : decode cX4_block 128 = .ok (.iload_n 1, 1) := by decide +kernel
theorem dX4_block_129 : decode cX4_block 129 = .ok (.invokevirtual 119, 3) := by decide +kernel
theorem dX4_block_132 : decode cX4_block 132 = .ok (.isub, 1) := by decide +kernel
theorem dX4_block_133 : decode cX4_block 133 = .ok (.imul, 1) := by decide +kernel
theorem dX4_block_134 : decode cX4_block 134 = .ok (.ireturn, 1) := by decide +kernel
theorem dX4_block_135 : decode cX4_block 135 = .ok (.new 132, 3) := by decide +kernel
theorem dX4_block_138 : decode cX4_block 138 = .ok (.dup, 1) := by decide +kernel
theorem dX4_block_139 : decode cX4_block 139 = .ok (.ldc 134, 2) := by decide +kernel
theorem dX4_block_141 : decode cX4_block 141 = .ok (.invokespecial 136, 3) := by decide +kernel
theorem dX4_block_144 : decode cX4_block 144 = .ok (.athrow, 1) := by decide +kernel
theorem dX4_pulley_0 : decode cX4_pulley 0 = .ok (.aload_n 0, 1) := by decide +kernel
theorem dX4_pulley_1 : decode cX4_pulley 1 = .ok (.iload_n 1, 1) := by decide +kernel
theorem dX4_pulley_2 : decode cX4_pulley 2 = .ok (.invokevirtual 137, 3) := by decide +kernel
theorem dX4_pulley_5 : decode cX4_pulley 5 = .ok (.aload_n 0, 1) := by decide +kernel
theorem dX4_pulley_6 : decode cX4_pulley 6 = .ok (.getfield 10, 3) := by decide +kernel
theorem dX4_pulley_9 : decode cX4_pulley 9 = .ok (.getfield 57, 3) := by decide +kernel
theorem dX4_pulley_12 : decode cX4_pulley 12 = .ok (.getfield 140, 3) := by decide +kernel
theorem dX4_pulley_15 : decode cX4_pulley 15 = .ok (.iload_n 1, 1) := by decide +kernel
theorem dX4_pulley_16 : decode cX4_pulley 16 = .ok (.invokestatic 144, 3) := by decide +kernel
theorem dX4_pulley_19 : decode cX4_pulley 19 = .ok (.ireturn, 1) := by decide +kernel
theorem dX4_force_0 : decode cX4_force 0 = .ok (.iload_n 1, 1) := by decide +kernel
theorem dX4_force_1 : decode cX4_force 1 = .ok (.iconst 0, 1) := by decide +kernel
theorem dX4_force_2 : decode cX4_force 2 = .ok (.ldc 110, 2) := by decide +kernel
theorem dX4_force_4 : decode cX4_force 4 = .ok (.invokestatic 42, 3) := by decide +kernel
theorem dX4_force_7 : decode cX4_force 7 = .ok (.iload_n 2, 1) := by decide +kernel
theorem dX4_force_8 : decode cX4_force 8 = .ok (.iconst 0, 1) := by decide +kernel
theorem dX4_force_9 : decode cX4_force 9 = .ok (.aload_n 0, 1) := by decide +kernel
theorem dX4_force_10 : decode cX4_force 10 = .ok (.getfield 10, 3) := by decide +kernel
theorem dX4_force_13 : decode cX4_force 13 = .ok (.getfield 57, 3) := by decide +kernel
theorem dX4_force_16 : decode cX4_force 16 = .ok (.invokevirtual 148, 3) := by decide +kernel
theorem dX4_force_19 : decode cX4_force 19 = .ok (.invokestatic 42, 3) := by decide +kernel
theorem dX4_force_22 : decode cX4_force 22 = .ok (.aload_n 0, 1) := by decide +kernel
theorem dX4_force_23 : decode cX4_force 23 = .ok (.getfield 10, 3) := by decide +kernel
theorem dX4_force_26 : decode cX4_force 26 = .ok (.getfield 57, 3) := by decide +kernel
theorem dX4_force_29 : decode cX4_force 29 = .ok (.iload_n 1, 1) := by decide +kernel
theorem dX4_force_30 : decode cX4_force 30 = .ok (.iload_n 2, 1) := by decide +kernel
theorem dX4_force_31 : decode cX4_force 31 = .ok (.iload_n 3, 1) := by decide +kernel
theorem dX4_force_32 : decode cX4_force 32 = .ok (.invokevirtual 151, 3) := by decide +kernel
theorem dX4_force_35 : decode cX4_force 35 = .ok (.lreturn, 1) := by decide +kernel
theorem dX4_pull_0 : decode cX4_pull 0 = .ok (.iload_n 1, 1) := by decide +kernel
theorem dX4_pull_1 : decode cX4_pull 1 = .ok (.invokestatic 37, 3) := by decide +kernel
theorem dX4_pull_4 : decode cX4_pull 4 = .ok (.iload_n 2, 1) := by decide +kernel
theorem dX4_pull_5 : decode cX4_pull 5 = .ok (.iconst 0, 1) := by decide +kernel
theorem dX4_pull_6 : decode cX4_pull 6 = .ok (.ldc 110, 2) := by decide +kernel
theorem dX4_pull_8 : decode cX4_pull 8 = .ok (.invokestatic 42, 3) := by decide +kernel
theorem dX4_pull_11 : decode cX4_pull 11 = .ok (.aload_n 0, 1) := by decide +kernel
theorem dX4_pull_12 : decode cX4_pull 12 = .ok (.getfield 10, 3) := by decide +kernel
theorem dX4_pull_15 : decode cX4_pull 15 = .ok (.getfield 57, 3) := by decide +kernel
theorem dX4_pull_18 : decode cX4_pull 18 = .ok (.iload_n 1, 1) := by decide +kernel
theorem dX4_pull_19 : decode cX4_pull 19 = .ok (.iload_n 2, 1) := by decide +kernel
theorem dX4_pull_20 : decode cX4_pull 20 = .ok (.iload_n 3, 1) := by decide +kernel
theorem dX4_pull_21 : decode cX4_pull 21 = .ok (.invokevirtual 155, 3) := by decide +kernel
theorem dX4_pull_24 : decode cX4_pull 24 = .ok (.lreturn, 1) := by decide +kernel
theorem dX4_value_0 : decode cX4_value 0 = .ok (.iload_n 1, 1) := by decide +kernel
theorem dX4_value_1 : decode cX4_value 1 = .ok (.tableswitch 156 0 9 #[55, 63, 71, 82, 93, 104, 115, 123, 134, 145], 55) := by decide +kernel
theorem dX4_value_56 : decode cX4_value 56 = .ok (.aload_n 0, 1) := by decide +kernel
theorem dX4_value_57 : decode cX4_value 57 = .ok (.getfield 10, 3) := by decide +kernel
theorem dX4_value_60 : decode cX4_value 60 = .ok (.getfield 71, 3) := by decide +kernel
theorem dX4_value_63 : decode cX4_value 63 = .ok (.ireturn, 1) := by decide +kernel
theorem dX4_value_64 : decode cX4_value 64 = .ok (.aload_n 0, 1) := by decide +kernel
theorem dX4_value_65 : decode cX4_value 65 = .ok (.getfield 10, 3) := by decide +kernel
theorem dX4_value_68 : decode cX4_value 68 = .ok (.invokevirtual 80, 3) := by decide +kernel
theorem dX4_value_71 : decode cX4_value 71 = .ok (.ireturn, 1) := by decide +kernel
theorem dX4_value_72 : decode cX4_value 72 = .ok (.aload_n 0, 1) := by decide +kernel
theorem dX4_value_73 : decode cX4_value 73 = .ok (.getfield 10, 3) := by decide +kernel
theorem dX4_value_76 : decode cX4_value 76 = .ok (.getfield 57, 3) := by decide +kernel
theorem dX4_value_79 : decode cX4_value 79 = .ok (.getfield 61, 3) := by decide +kernel
theorem dX4_value_82 : decode cX4_value 82 = .ok (.ireturn, 1) := by decide +kernel
theorem dX4_value_83 : decode cX4_value 83 = .ok (.aload_n 0, 1) := by decide +kernel
theorem dX4_value_84 : decode cX4_value 84 = .ok (.getfield 10, 3) := by decide +kernel
theorem dX4_value_87 : decode cX4_value 87 = .ok (.getfield 57, 3) := by decide +kernel
theorem dX4_value_90 : decode cX4_value 90 = .ok (.getfield 84, 3) := by decide +kernel
theorem dX4_value_93 : decode cX4_value 93 = .ok (.ireturn, 1) := by decide +kernel
theorem dX4_value_94 : decode cX4_value 94 = .ok (.aload_n 0, 1) := by decide +kernel
theorem dX4_value_95 : decode cX4_value 95 = .ok (.getfield 10, 3) := by decide +kernel
theorem dX4_value_98 : decode cX4_value 98 = .ok (.getfield 57, 3) := by decide +kernel
theorem dX4_value_101 : decode cX4_value 101 = .ok (.getfield 107, 3) := by decide +kernel
theorem dX4_value_104 : decode cX4_value 104 = .ok (.ireturn, 1) := by decide +kernel
theorem dX4_value_105 : decode cX4_value 105 = .ok (.aload_n 0, 1) := by decide +kernel
theorem dX4_value_106 : decode cX4_value 106 = .ok (.getfield 10, 3) := by decide +kernel
theorem dX4_value_109 : decode cX4_value 109 = .ok (.getfield 57, 3) := by decide +kernel
theorem dX4_value_112 : decode cX4_value 112 = .ok (.invokevirtual 148, 3) := by decide +kernel
theorem dX4_value_115 : decode cX4_value 115 = .ok (.ireturn, 1) := by decide +kernel
theorem dX4_value_116 : decode cX4_value 116 = .ok (.aload_n 0, 1) := by decide +kernel
theorem dX4_value_117 : decode cX4_value 117 = .ok (.getfield 10, 3) := by decide +kernel
theorem dX4_value_120 : decode cX4_value 120 = .ok (.invokevirtual 158, 3) := by decide +kernel
theorem dX4_value_123 : decode cX4_value 123 = .ok (.ireturn, 1) := by decide +kernel
theorem dX4_value_124 : decode cX4_value 124 = .ok (.aload_n 0, 1) := by decide +kernel
theorem dX4_value_125 : decode cX4_value 125 = .ok (.getfield 10, 3) := by decide +kernel
theorem dX4_value_128 : decode cX4_value 128 = .ok (.getfield 161, 3) := by decide +kernel
theorem dX4_value_131 : decode cX4_value 131 = .ok (.getfield 165, 3) := by decide +kernel
theorem dX4_value_134 : decode cX4_value 134 = .ok (.ireturn, 1) := by decide +kernel
theorem dX4_value_135 : decode cX4_value 135 = .ok (.aload_n 0, 1) := by decide +kernel
theorem dX4_value_136 : decode cX4_value 136 = .ok (.getfield 10, 3) := by decide +kernel
theorem dX4_value_139 : decode cX4_value 139 = .ok (.getfield 161, 3) := by decide +kernel
theorem dX4_value_142 : decode cX4_value 142 = .ok (.getfield 170, 3) := by decide +kernel
theorem dX4_value_145 : decode cX4_value 145 = .ok (.ireturn, 1) := by decide +kernel
theorem dX4_value_146 : decode cX4_value 146 = .ok (.aload_n 0, 1) := by decide +kernel
theorem dX4_value_147 : decode cX4_value 147 = .ok (.getfield 10, 3) := by decide +kernel
theorem dX4_value_150 : decode cX4_value 150 = .ok (.getfield 161, 3) := by decide +kernel
theorem dX4_value_153 : decode cX4_value 153 = .ok (.getfield 173, 3) := by decide +kernel
theorem dX4_value_156 : decode cX4_value 156 = .ok (.ireturn, 1) := by decide +kernel
theorem dX4_value_157 : decode cX4_value 157 = .ok (.new 132, 3) := by decide +kernel
theorem dX4_value_160 : decode cX4_value 160 = .ok (.dup, 1) := by decide +kernel
theorem dX4_value_161 : decode cX4_value 161 = .ok (.ldc 176, 2) := by decide +kernel
theorem dX4_value_163 : decode cX4_value 163 = .ok (.invokespecial 136, 3) := by decide +kernel
theorem dX4_value_166 : decode cX4_value 166 = .ok (.athrow, 1) := by decide +kernel
theorem dX4_work_0 : decode cX4_work 0 = .ok (.iload_n 1, 1) := by decide +kernel
theorem dX4_work_1 : decode cX4_work 1 = .ok (.ifCond .eq 16, 3) := by decide +kernel
theorem dX4_work_4 : decode cX4_work 4 = .ok (.aload_n 0, 1) := by decide +kernel
theorem dX4_work_5 : decode cX4_work 5 = .ok (.getfield 10, 3) := by decide +kernel
theorem dX4_work_8 : decode cX4_work 8 = .ok (.getfield 161, 3) := by decide +kernel
theorem dX4_work_11 : decode cX4_work 11 = .ok (.getfield 178, 3) := by decide +kernel
theorem dX4_work_14 : decode cX4_work 14 = .ok (.goto 13, 3) := by decide +kernel
theorem dX4_work_17 : decode cX4_work 17 = .ok (.aload_n 0, 1) := by decide +kernel
theorem dX4_work_18 : decode cX4_work 18 = .ok (.getfield 10, 3) := by decide +kernel
theorem dX4_work_21 : decode cX4_work 21 = .ok (.getfield 161, 3) := by decide +kernel
theorem dX4_work_24 : decode cX4_work 24 = .ok (.getfield 182, 3) := by decide +kernel
theorem dX4_work_27 : decode cX4_work 27 = .ok (.lreturn, 1) := by decide +kernel
theorem dX4_entry_0 : decode cX4_entry 0 = .ok (.iload_n 1, 1) := by decide +kernel
theorem dX4_entry_1 : decode cX4_entry 1 = .ok (.ifCond .lt 17, 3) := by decide +kernel
theorem dX4_entry_4 : decode cX4_entry 4 = .ok (.iload_n 1, 1) := by decide +kernel
theorem dX4_entry_5 : decode cX4_entry 5 = .ok (.aload_n 0, 1) := by decide +kernel
theorem dX4_entry_6 : decode cX4_entry 6 = .ok (.getfield 10, 3) := by decide +kernel
theorem dX4_entry_9 : decode cX4_entry 9 = .ok (.getfield 161, 3) := by decide +kernel
theorem dX4_entry_12 : decode cX4_entry 12 = .ok (.getfield 173, 3) := by decide +kernel
theorem dX4_entry_15 : decode cX4_entry 15 = .ok (.if_icmp .lt 13, 3) := by decide +kernel
theorem dX4_entry_18 : decode cX4_entry 18 = .ok (.new 102, 3) := by decide +kernel
theorem dX4_entry_21 : decode cX4_entry 21 = .ok (.dup, 1) := by decide +kernel
theorem dX4_entry_22 : decode cX4_entry 22 = .ok (.ldc 185, 2) := by decide +kernel
theorem dX4_entry_24 : decode cX4_entry 24 = .ok (.invokespecial 106, 3) := by decide +kernel
theorem dX4_entry_27 : decode cX4_entry 27 = .ok (.athrow, 1) := by decide +kernel
theorem dX4_entry_28 : decode cX4_entry 28 = .ok (.iload_n 2, 1) := by decide +kernel
theorem dX4_entry_29 : decode cX4_entry 29 = .ok (.iconst 0, 1) := by decide +kernel
theorem dX4_entry_30 : decode cX4_entry 30 = .ok (.iconst 2, 1) := by decide +kernel
theorem dX4_entry_31 : decode cX4_entry 31 = .ok (.invokestatic 42, 3) := by decide +kernel
theorem dX4_entry_34 : decode cX4_entry 34 = .ok (.aload_n 0, 1) := by decide +kernel
theorem dX4_entry_35 : decode cX4_entry 35 = .ok (.getfield 10, 3) := by decide +kernel
theorem dX4_entry_38 : decode cX4_entry 38 = .ok (.getfield 161, 3) := by decide +kernel
theorem dX4_entry_41 : decode cX4_entry 41 = .ok (.iload_n 1, 1) := by decide +kernel
theorem dX4_entry_42 : decode cX4_entry 42 = .ok (.iload_n 2, 1) := by decide +kernel
theorem dX4_entry_43 : decode cX4_entry 43 = .ok (.invokevirtual 187, 3) := by decide +kernel
theorem dX4_entry_46 : decode cX4_entry 46 = .ok (.ireturn, 1) := by decide +kernel
theorem dX4_first_0 : decode cX4_first 0 = .ok (.aload_n 0, 1) := by decide +kernel
theorem dX4_first_1 : decode cX4_first 1 = .ok (.getfield 10, 3) := by decide +kernel
theorem dX4_first_4 : decode cX4_first 4 = .ok (.iconst 1, 1) := by decide +kernel
theorem dX4_first_5 : decode cX4_first 5 = .ok (.invokevirtual 190, 3) := by decide +kernel
theorem dX4_first_8 : decode cX4_first 8 = .ok (.aload_n 0, 1) := by decide +kernel
theorem dX4_first_9 : decode cX4_first 9 = .ok (.getfield 10, 3) := by decide +kernel
theorem dX4_first_12 : decode cX4_first 12 = .ok (.ldc 110, 2) := by decide +kernel
theorem dX4_first_14 : decode cX4_first 14 = .ok (.invokevirtual 194, 3) := by decide +kernel
theorem dX4_first_17 : decode cX4_first 17 = .ok (.ireturn, 1) := by decide +kernel
theorem dX4_pulleysFor_0 : decode cX4_pulleysFor 0 = .ok (.iload_n 1, 1) := by decide +kernel
theorem dX4_pulleysFor_1 : decode cX4_pulleysFor 1 = .ok (.invokestatic 37, 3) := by decide +kernel
theorem dX4_pulleysFor_4 : decode cX4_pulleysFor 4 = .ok (.iload_n 2, 1) := by decide +kernel
theorem dX4_pulleysFor_5 : decode cX4_pulleysFor 5 = .ok (.iconst 0, 1) := by decide +kernel
theorem dX4_pulleysFor_6 : decode cX4_pulleysFor 6 = .ok (.ldc 110, 2) := by decide +kernel
theorem dX4_pulleysFor_8 : decode cX4_pulleysFor 8 = .ok (.invokestatic 42, 3) := by decide +kernel
theorem dX4_pulleysFor_11 : decode cX4_pulleysFor 11 = .ok (.aload_n 0, 1) := by decide +kernel
theorem dX4_pulleysFor_12 : decode cX4_pulleysFor 12 = .ok (.getfield 16, 3) := by decide +kernel
theorem dX4_pulleysFor_15 : decode cX4_pulleysFor 15 = .ok (.aload_n 0, 1) := by decide +kernel
theorem dX4_pulleysFor_16 : decode cX4_pulleysFor 16 = .ok (.getfield 10, 3) := by decide +kernel
theorem dX4_pulleysFor_19 : decode cX4_pulleysFor 19 = .ok (.invokevirtual 67, 3) := by decide +kernel
theorem dX4_pulleysFor_22 : decode cX4_pulleysFor 22 = .ok (.aload_n 0, 1) := by decide +kernel
theorem dX4_pulleysFor_23 : decode cX4_pulleysFor 23 = .ok (.getfield 16, 3) := by decide +kernel
theorem dX4_pulleysFor_26 : decode cX4_pulleysFor 26 = .ok (.getfield 57, 3) := by decide +kernel
theorem dX4_pulleysFor_29 : decode cX4_pulleysFor 29 = .ok (.invokevirtual 202, 3) := by decide +kernel
theorem dX4_pulleysFor_32 : decode cX4_pulleysFor 32 = .ok (.iconst 1, 1) := by decide +kernel
theorem dX4_pulleysFor_33 : decode cX4_pulleysFor 33 = .ok (.istore_n 3, 1) := by decide +kernel
theorem dX4_pulleysFor_34 : decode cX4_pulleysFor 34 = .ok (.iload_n 3, 1) := by decide +kernel
theorem dX4_pulleysFor_35 : decode cX4_pulleysFor 35 = .ok (.bipush 10, 2) := by decide +kernel
theorem dX4_pulleysFor_37 : decode cX4_pulleysFor 37 = .ok (.if_icmp .gt 48, 3) := by decide +kernel
theorem dX4_pulleysFor_40 : decode cX4_pulleysFor 40 = .ok (.aload_n 0, 1) := by decide +kernel
theorem dX4_pulleysFor_41 : decode cX4_pulleysFor 41 = .ok (.getfield 16, 3) := by decide +kernel
theorem dX4_pulleysFor_44 : decode cX4_pulleysFor 44 = .ok (.getfield 57, 3) := by decide +kernel
theorem dX4_pulleysFor_47 : decode cX4_pulleysFor 47 = .ok (.iload_n 1, 1) := by decide +kernel
theorem dX4_pulleysFor_48 : decode cX4_pulleysFor 48 = .ok (.invokevirtual 94, 3) := by decide +kernel
theorem dX4_pulleysFor_51 : decode cX4_pulleysFor 51 = .ok (.aload_n 0, 1) := by decide +kernel
theorem dX4_pulleysFor_52 : decode cX4_pulleysFor 52 = .ok (.getfield 16, 3) := by decide +kernel
theorem dX4_pulleysFor_55 : decode cX4_pulleysFor 55 = .ok (.getfield 57, 3) := by decide +kernel
theorem dX4_pulleysFor_58 : decode cX4_pulleysFor 58 = .ok (.iload_n 1, 1) := by decide +kernel
theorem dX4_pulleysFor_59 : decode cX4_pulleysFor 59 = .ok (.iload_n 2, 1) := by decide +kernel
theorem dX4_pulleysFor_60 : decode cX4_pulleysFor 60 = .ok (.iconst 1, 1) := by decide +kernel
theorem dX4_pulleysFor_61 : decode cX4_pulleysFor 61 = .ok (.invokevirtual 155, 3) := by decide +kernel
theorem dX4_pulleysFor_64 : decode cX4_pulleysFor 64 = .ok (.aload_n 0, 1) := by decide +kernel
theorem dX4_pulleysFor_65 : decode cX4_pulleysFor 65 = .ok (.getfield 16, 3) := by decide +kernel
theorem dX4_pulleysFor_68 : decode cX4_pulleysFor 68 = .ok (.iload_n 1, 1) := by decide +kernel
theorem dX4_pulleysFor_69 : decode cX4_pulleysFor 69 = .ok (.invokevirtual 49, 3) := by decide +kernel
theorem dX4_pulleysFor_72 : decode cX4_pulleysFor 72 = .ok (.i2l, 1) := by decide +kernel
theorem dX4_pulleysFor_73 : decode cX4_pulleysFor 73 = .ok (.lcmp, 1) := by decide +kernel
theorem dX4_pulleysFor_74 : decode cX4_pulleysFor 74 = .ok (.ifCond .lt 5, 3) := by decide +kernel
theorem dX4_pulleysFor_77 : decode cX4_pulleysFor 77 = .ok (.iload_n 3, 1) := by decide +kernel
theorem dX4_pulleysFor_78 : decode cX4_pulleysFor 78 = .ok (.ireturn, 1) := by decide +kernel
theorem dX4_pulleysFor_79 : decode cX4_pulleysFor 79 = .ok (.iinc 3 1, 3) := by decide +kernel
theorem dX4_pulleysFor_82 : decode cX4_pulleysFor 82 = .ok (.goto (-48), 3) := by decide +kernel
theorem dX4_pulleysFor_85 : decode cX4_pulleysFor 85 = .ok (.iconst (-1), 1) := by decide +kernel
theorem dX4_pulleysFor_86 : decode cX4_pulleysFor 86 = .ok (.ireturn, 1) := by decide +kernel
theorem dX4_bestEnd_0 : decode cX4_bestEnd 0 = .ok (.iload_n 1, 1) := by decide +kernel
theorem dX4_bestEnd_1 : decode cX4_bestEnd 1 = .ok (.invokestatic 37, 3) := by decide +kernel
theorem dX4_bestEnd_4 : decode cX4_bestEnd 4 = .ok (.aload_n 0, 1) := by decide +kernel
theorem dX4_bestEnd_5 : decode cX4_bestEnd 5 = .ok (.getfield 16, 3) := by decide +kernel
theorem dX4_bestEnd_8 : decode cX4_bestEnd 8 = .ok (.aload_n 0, 1) := by decide +kernel
theorem dX4_bestEnd_9 : decode cX4_bestEnd 9 = .ok (.getfield 10, 3) := by decide +kernel
theorem dX4_bestEnd_12 : decode cX4_bestEnd 12 = .ok (.invokevirtual 67, 3) := by decide +kernel
theorem dX4_bestEnd_15 : decode cX4_bestEnd 15 = .ok (.iconst (-1), 1) := by decide +kernel
theorem dX4_bestEnd_16 : decode cX4_bestEnd 16 = .ok (.istore_n 2, 1) := by decide +kernel
theorem dX4_bestEnd_17 : decode cX4_bestEnd 17 = .ok (.iconst (-1), 1) := by decide +kernel
theorem dX4_bestEnd_18 : decode cX4_bestEnd 18 = .ok (.istore_n 3, 1) := by decide +kernel
theorem dX4_bestEnd_19 : decode cX4_bestEnd 19 = .ok (.iconst 0, 1) := by decide +kernel
theorem dX4_bestEnd_20 : decode cX4_bestEnd 20 = .ok (.istore 4, 2) := by decide +kernel
theorem dX4_bestEnd_22 : decode cX4_bestEnd 22 = .ok (.iload 4, 2) := by decide +kernel
theorem dX4_bestEnd_24 : decode cX4_bestEnd 24 = .ok (.iconst 4, 1) := by decide +kernel
theorem dX4_bestEnd_25 : decode cX4_bestEnd 25 = .ok (.if_icmp .gt 55, 3) := by decide +kernel
theorem dX4_bestEnd_28 : decode cX4_bestEnd 28 = .ok (.aload_n 0, 1) := by decide +kernel
theorem dX4_bestEnd_29 : decode cX4_bestEnd 29 = .ok (.getfield 16, 3) := by decide +kernel
theorem dX4_bestEnd_32 : decode cX4_bestEnd 32 = .ok (.getfield 57, 3) := by decide +kernel
theorem dX4_bestEnd_35 : decode cX4_bestEnd 35 = .ok (.iload 4, 2) := by decide +kernel
theorem dX4_bestEnd_37 : decode cX4_bestEnd 37 = .ok (.putfield 107, 3) := by decide +kernel
theorem dX4_bestEnd_40 : decode cX4_bestEnd 40 = .ok (.aload_n 0, 1) := by decide +kernel
theorem dX4_bestEnd_41 : decode cX4_bestEnd 41 = .ok (.getfield 16, 3) := by decide +kernel
theorem dX4_bestEnd_44 : decode cX4_bestEnd 44 = .ok (.iload_n 1, 1) := by decide +kernel
theorem dX4_bestEnd_45 : decode cX4_bestEnd 45 = .ok (.iconst 1, 1) := by decide +kernel
theorem dX4_bestEnd_46 : decode cX4_bestEnd 46 = .ok (.invokevirtual 128, 3) := by decide +kernel
theorem dX4_bestEnd_49 : decode cX4_bestEnd 49 = .ok (.istore 5, 2) := by decide +kernel
theorem dX4_bestEnd_51 : decode cX4_bestEnd 51 = .ok (.iload 5, 2) := by decide +kernel
theorem dX4_bestEnd_53 : decode cX4_bestEnd 53 = .ok (.iconst (-1), 1) := by decide +kernel
theorem dX4_bestEnd_54 : decode cX4_bestEnd 54 = .ok (.if_icmp .eq 20, 3) := by decide +kernel
theorem dX4_bestEnd_57 : decode cX4_bestEnd 57 = .ok (.iload_n 2, 1) := by decide +kernel
theorem dX4_bestEnd_58 : decode cX4_bestEnd 58 = .ok (.iconst (-1), 1) := by decide +kernel
theorem dX4_bestEnd_59 : decode cX4_bestEnd 59 = .ok (.if_icmp .eq 9, 3) := by decide +kernel
theorem dX4_bestEnd_62 : decode cX4_bestEnd 62 = .ok (.iload 5, 2) := by decide +kernel
theorem dX4_bestEnd_64 : decode cX4_bestEnd 64 = .ok (.iload_n 3, 1) := by decide +kernel
theorem dX4_bestEnd_65 : decode cX4_bestEnd 65 = .ok (.if_icmp .ge 9, 3) := by decide +kernel
theorem dX4_bestEnd_68 : decode cX4_bestEnd 68 = .ok (.iload 4, 2) := by decide +kernel
theorem dX4_bestEnd_70 : decode cX4_bestEnd 70 = .ok (.istore_n 2, 1) := by decide +kernel
theorem dX4_bestEnd_71 : decode cX4_bestEnd 71 = .ok (.iload 5, 2) := by decide +kernel
theorem dX4_bestEnd_73 : decode cX4_bestEnd 73 = .ok (.istore_n 3, 1) := by decide +kernel
theorem dX4_bestEnd_74 : decode cX4_bestEnd 74 = .ok (.iinc 4 1, 3) := by decide +kernel
theorem dX4_bestEnd_77 : decode cX4_bestEnd 77 = .ok (.goto (-55), 3) := by decide +kernel
theorem dX4_bestEnd_80 : decode cX4_bestEnd 80 = .ok (.iload_n 2, 1) := by decide +kernel
theorem dX4_bestEnd_81 : decode cX4_bestEnd 81 = .ok (.ireturn, 1) := by decide +kernel
theorem dX4_swapped_0 : decode cX4_swapped 0 = .ok (.iload_n 1, 1) := by decide +kernel
theorem dX4_swapped_1 : decode cX4_swapped 1 = .ok (.invokestatic 37, 3) := by decide +kernel
theorem dX4_swapped_4 : decode cX4_swapped 4 = .ok (.aload_n 0, 1) := by decide +kernel
theorem dX4_swapped_5 : decode cX4_swapped 5 = .ok (.iload_n 2, 1) := by decide +kernel
theorem dX4_swapped_6 : decode cX4_swapped 6 = .ok (.invokevirtual 137, 3) := by decide +kernel
theorem dX4_swapped_9 : decode cX4_swapped 9 = .ok (.aload_n 0, 1) := by decide +kernel
theorem dX4_swapped_10 : decode cX4_swapped 10 = .ok (.iload_n 3, 1) := by decide +kernel
theorem dX4_swapped_11 : decode cX4_swapped 11 = .ok (.invokevirtual 137, 3) := by decide +kernel
theorem dX4_swapped_14 : decode cX4_swapped 14 = .ok (.aload_n 0, 1) := by decide +kernel
theorem dX4_swapped_15 : decode cX4_swapped 15 = .ok (.getfield 16, 3) := by decide +kernel
theorem dX4_swapped_18 : decode cX4_swapped 18 = .ok (.aload_n 0, 1) := by decide +kernel
theorem dX4_swapped_19 : decode cX4_swapped 19 = .ok (.getfield 10, 3) := by decide +kernel
theorem dX4_swapped_22 : decode cX4_swapped 22 = .ok (.invokevirtual 67, 3) := by decide +kernel
theorem dX4_swapped_25 : decode cX4_swapped 25 = .ok (.aload_n 0, 1) := by decide +kernel
theorem dX4_swapped_26 : decode cX4_swapped 26 = .ok (.getfield 16, 3) := by decide +kernel
theorem dX4_swapped_29 : decode cX4_swapped 29 = .ok (.getfield 57, 3) := by decide +kernel
theorem dX4_swapped_32 : decode cX4_swapped 32 = .ok (.iload_n 2, 1) := by decide +kernel
theorem dX4_swapped_33 : decode cX4_swapped 33 = .ok (.iload_n 3, 1) := by decide +kernel
theorem dX4_swapped_34 : decode cX4_swapped 34 = .ok (.invokevirtual 205, 3) := by decide +kernel
theorem dX4_swapped_37 : decode cX4_swapped 37 = .ok (.aload_n 0, 1) := by decide +kernel
theorem dX4_swapped_38 : decode cX4_swapped 38 = .ok (.getfield 16, 3) := by decide +kernel
theorem dX4_swapped_41 : decode cX4_swapped 41 = .ok (.iload_n 1, 1) := by decide +kernel
theorem dX4_swapped_42 : decode cX4_swapped 42 = .ok (.iconst 1, 1) := by decide +kernel
theorem dX4_swapped_43 : decode cX4_swapped 43 = .ok (.invokevirtual 128, 3) := by decide +kernel
theorem dX4_swapped_46 : decode cX4_swapped 46 = .ok (.ireturn, 1) := by decide +kernel
theorem dX4_riseBy_0 : decode cX4_riseBy 0 = .ok (.iload_n 1, 1) := by decide +kernel
theorem dX4_riseBy_1 : decode cX4_riseBy 1 = .ok (.invokestatic 37, 3) := by decide +kernel
theorem dX4_riseBy_4 : decode cX4_riseBy 4 = .ok (.iload_n 2, 1) := by decide +kernel
theorem dX4_riseBy_5 : decode cX4_riseBy 5 = .ok (.iconst 0, 1) := by decide +kernel
theorem dX4_riseBy_6 : decode cX4_riseBy 6 = .ok (.ldc 110, 2) := by decide +kernel
theorem dX4_riseBy_8 : decode cX4_riseBy 8 = .ok (.invokestatic 42, 3) := by decide +kernel
theorem dX4_riseBy_11 : decode cX4_riseBy 11 = .ok (.iload_n 3, 1) := by decide +kernel
theorem dX4_riseBy_12 : decode cX4_riseBy 12 = .ok (.iconst 0, 1) := by decide +kernel
theorem dX4_riseBy_13 : decode cX4_riseBy 13 = .ok (.ldc 111, 2) := by decide +kernel
theorem dX4_riseBy_15 : decode cX4_riseBy 15 = .ok (.invokestatic 42, 3) := by decide +kernel
theorem dX4_riseBy_18 : decode cX4_riseBy 18 = .ok (.aload_n 0, 1) := by decide +kernel
theorem dX4_riseBy_19 : decode cX4_riseBy 19 = .ok (.getfield 16, 3) := by decide +kernel
theorem dX4_riseBy_22 : decode cX4_riseBy 22 = .ok (.aload_n 0, 1) := by decide +kernel
theorem dX4_riseBy_23 : decode cX4_riseBy 23 = .ok (.getfield 10, 3) := by decide +kernel
theorem dX4_riseBy_26 : decode cX4_riseBy 26 = .ok (.invokevirtual 67, 3) := by decide +kernel
theorem dX4_riseBy_29 : decode cX4_riseBy 29 = .ok (.aload_n 0, 1) := by decide +kernel
theorem dX4_riseBy_30 : decode cX4_riseBy 30 = .ok (.getfield 16, 3) := by decide +kernel
theorem dX4_riseBy_33 : decode cX4_riseBy 33 = .ok (.iload_n 2, 1) := by decide +kernel
theorem dX4_riseBy_34 : decode cX4_riseBy 34 = .ok (.iload_n 3, 1) := by decide +kernel
theorem dX4_riseBy_35 : decode cX4_riseBy 35 = .ok (.invokevirtual 112, 3) := by decide +kernel
theorem dX4_riseBy_38 : decode cX4_riseBy 38 = .ok (.pop, 1) := by decide +kernel
theorem dX4_riseBy_39 : decode cX4_riseBy 39 = .ok (.aload_n 0, 1) := by decide +kernel
theorem dX4_riseBy_40 : decode cX4_riseBy 40 = .ok (.getfield 16, 3) := by decide +kernel
theorem dX4_riseBy_43 : decode cX4_riseBy 43 = .ok (.iload_n 1, 1) := by decide +kernel
theorem dX4_riseBy_44 : decode cX4_riseBy 44 = .ok (.invokevirtual 119, 3) := by decide +kernel
theorem dX4_riseBy_47 : decode cX4_riseBy 47 = .ok (.aload_n 0, 1) := by decide +kernel
theorem dX4_riseBy_48 : decode cX4_riseBy 48 = .ok (.getfield 10, 3) := by decide +kernel
theorem dX4_riseBy_51 : decode cX4_riseBy 51 = .ok (.iload_n 1, 1) := by decide +kernel
theorem dX4_riseBy_52 : decode cX4_riseBy 52 = .ok (.invokevirtual 119, 3) := by decide +kernel
theorem dX4_riseBy_55 : decode cX4_riseBy 55 = .ok (.isub, 1) := by decide +kernel
theorem dX4_riseBy_56 : decode cX4_riseBy 56 = .ok (.ireturn, 1) := by decide +kernel
theorem dX4_append_0 : decode cX4_append 0 = .ok (.iload_n 1, 1) := by decide +kernel
theorem dX4_append_1 : decode cX4_append 1 = .ok (.iconst 0, 1) := by decide +kernel
theorem dX4_append_2 : decode cX4_append 2 = .ok (.bipush 127, 2) := by decide +kernel
theorem dX4_append_4 : decode cX4_append 4 = .ok (.invokestatic 42, 3) := by decide +kernel
theorem dX4_append_7 : decode cX4_append 7 = .ok (.aload_n 0, 1) := by decide +kernel
theorem dX4_append_8 : decode cX4_append 8 = .ok (.getfield 33, 3) := by decide +kernel
theorem dX4_append_11 : decode cX4_append 11 = .ok (.getfield 208, 3) := by decide +kernel
theorem dX4_append_14 : decode cX4_append 14 = .ok (.bipush 60, 2) := by decide +kernel
theorem dX4_append_16 : decode cX4_append 16 = .ok (.if_icmp .lt 13, 3) := by decide +kernel
theorem dX4_append_19 : decode cX4_append 19 = .ok (.new 87, 3) := by decide +kernel
theorem dX4_append_22 : decode cX4_append 22 = .ok (.dup, 1) := by decide +kernel
theorem dX4_append_23 : decode cX4_append 23 = .ok (.ldc 211, 2) := by decide +kernel
theorem dX4_append_25 : decode cX4_append 25 = .ok (.invokespecial 91, 3) := by decide +kernel
theorem dX4_append_28 : decode cX4_append 28 = .ok (.athrow, 1) := by decide +kernel
theorem dX4_append_29 : decode cX4_append 29 = .ok (.aload_n 0, 1) := by decide +kernel
theorem dX4_append_30 : decode cX4_append 30 = .ok (.getfield 33, 3) := by decide +kernel
theorem dX4_append_33 : decode cX4_append 33 = .ok (.getfield 213, 3) := by decide +kernel
theorem dX4_append_36 : decode cX4_append 36 = .ok (.aload_n 0, 1) := by decide +kernel
theorem dX4_append_37 : decode cX4_append 37 = .ok (.getfield 33, 3) := by decide +kernel
theorem dX4_append_40 : decode cX4_append 40 = .ok (.getfield 208, 3) := by decide +kernel
theorem dX4_append_43 : decode cX4_append 43 = .ok (.iload_n 1, 1) := by decide +kernel
theorem dX4_append_44 : decode cX4_append 44 = .ok (.invokestatic 216, 3) := by decide +kernel
theorem dX4_append_47 : decode cX4_append 47 = .ok (.aload_n 0, 1) := by decide +kernel
theorem dX4_append_48 : decode cX4_append 48 = .ok (.getfield 33, 3) := by decide +kernel
theorem dX4_append_51 : decode cX4_append 51 = .ok (.dup, 1) := by decide +kernel
theorem dX4_append_52 : decode cX4_append 52 = .ok (.getfield 208, 3) := by decide +kernel
theorem dX4_append_55 : decode cX4_append 55 = .ok (.iconst 1, 1) := by decide +kernel
theorem dX4_append_56 : decode cX4_append 56 = .ok (.iadd, 1) := by decide +kernel
theorem dX4_append_57 : decode cX4_append 57 = .ok (.putfield 208, 3) := by decide +kernel
theorem dX4_append_60 : decode cX4_append 60 = .ok (.aload_n 0, 1) := by decide +kernel
theorem dX4_append_61 : decode cX4_append 61 = .ok (.getfield 33, 3) := by decide +kernel
theorem dX4_append_64 : decode cX4_append 64 = .ok (.getfield 208, 3) := by decide +kernel
theorem dX4_append_67 : decode cX4_append 67 = .ok (.ireturn, 1) := by decide +kernel
theorem dX4_clearText_0 : decode cX4_clearText 0 = .ok (.aload_n 0, 1) := by decide +kernel
theorem dX4_clearText_1 : decode cX4_clearText 1 = .ok (.getfield 33, 3) := by decide +kernel
theorem dX4_clearText_4 : decode cX4_clearText 4 = .ok (.getfield 208, 3) := by decide +kernel
theorem dX4_clearText_7 : decode cX4_clearText 7 = .ok (.istore_n 1, 1) := by decide +kernel
theorem dX4_clearText_8 : decode cX4_clearText 8 = .ok (.aload_n 0, 1) := by decide +kernel
theorem dX4_clearText_9 : decode cX4_clearText 9 = .ok (.getfield 33, 3) := by decide +kernel
theorem dX4_clearText_12 : decode cX4_clearText 12 = .ok (.iconst 0, 1) := by decide +kernel
theorem dX4_clearText_13 : decode cX4_clearText 13 = .ok (.putfield 208, 3) := by decide +kernel
theorem dX4_clearText_16 : decode cX4_clearText 16 = .ok (.iload_n 1, 1) := by decide +kernel
theorem dX4_clearText_17 : decode cX4_clearText 17 = .ok (.ireturn, 1) := by decide +kernel
theorem dX4_parse_0 : decode cX4_parse 0 = .ok (.aload_n 0, 1) := by decide +kernel
theorem dX4_parse_1 : decode cX4_parse 1 = .ok (.getfield 16, 3) := by decide +kernel
theorem dX4_parse_4 : decode cX4_parse 4 = .ok (.aload_n 0, 1) := by decide +kernel
theorem dX4_parse_5 : decode cX4_parse 5 = .ok (.getfield 10, 3) := by decide +kernel
theorem dX4_parse_8 : decode cX4_parse 8 = .ok (.invokevirtual 67, 3) := by decide +kernel
theorem dX4_parse_11 : decode cX4_parse 11 = .ok (.aload_n 0, 1) := by decide +kernel
theorem dX4_parse_12 : decode cX4_parse 12 = .ok (.getfield 33, 3) := by decide +kernel
theorem dX4_parse_15 : decode cX4_parse 15 = .ok (.aload_n 0, 1) := by decide +kernel
theorem dX4_parse_16 : decode cX4_parse 16 = .ok (.getfield 16, 3) := by decide +kernel
theorem dX4_parse_19 : decode cX4_parse 19 = .ok (.invokevirtual 220, 3) := by decide +kernel
theorem dX4_parse_22 : decode cX4_parse 22 = .ok (.istore_n 1, 1) := by decide +kernel
theorem dX4_parse_23 : decode cX4_parse 23 = .ok (.iload_n 1, 1) := by decide +kernel
theorem dX4_parse_24 : decode cX4_parse 24 = .ok (.iconst (-1), 1) := by decide +kernel
theorem dX4_parse_25 : decode cX4_parse 25 = .ok (.if_icmp .eq 8, 3) := by decide +kernel
theorem dX4_parse_28 : decode cX4_parse 28 = .ok (.bipush (-10), 2) := by decide +kernel
theorem dX4_parse_30 : decode cX4_parse 30 = .ok (.iload_n 1, 1) := by decide +kernel
theorem dX4_parse_31 : decode cX4_parse 31 = .ok (.isub, 1) := by decide +kernel
theorem dX4_parse_32 : decode cX4_parse 32 = .ok (.ireturn, 1) := by decide +kernel
theorem dX4_parse_33 : decode cX4_parse 33 = .ok (.aload_n 0, 1) := by decide +kernel
theorem dX4_parse_34 : decode cX4_parse 34 = .ok (.getfield 16, 3) := by decide +kernel
theorem dX4_parse_37 : decode cX4_parse 37 = .ok (.invokevirtual 80, 3) := by decide +kernel
theorem dX4_parse_40 : decode cX4_parse 40 = .ok (.ifCond .ge 5, 3) := by decide +kernel
theorem dX4_parse_43 : decode cX4_parse 43 = .ok (.iconst (-1), 1) := by decide +kernel
theorem dX4_parse_44 : decode cX4_parse 44 = .ok (.ireturn, 1) := by decide +kernel
theorem dX4_parse_45 : decode cX4_parse 45 = .ok (.aload_n 0, 1) := by decide +kernel
theorem dX4_parse_46 : decode cX4_parse 46 = .ok (.invokevirtual 77, 3) := by decide +kernel
theorem dX4_parse_49 : decode cX4_parse 49 = .ok (.aload_n 0, 1) := by decide +kernel
theorem dX4_parse_50 : decode cX4_parse 50 = .ok (.getfield 10, 3) := by decide +kernel
theorem dX4_parse_53 : decode cX4_parse 53 = .ok (.invokevirtual 80, 3) := by decide +kernel
theorem dX4_parse_56 : decode cX4_parse 56 = .ok (.ireturn, 1) := by decide +kernel
theorem dX4_undo_0 : decode cX4_undo 0 = .ok (.aload_n 0, 1) := by decide +kernel
theorem dX4_undo_1 : decode cX4_undo 1 = .ok (.getfield 23, 3) := by decide +kernel
theorem dX4_undo_4 : decode cX4_undo 4 = .ok (.ifCond .gt 13, 3) := by decide +kernel
theorem dX4_undo_7 : decode cX4_undo 7 = .ok (.new 87, 3) := by decide +kernel
theorem dX4_undo_10 : decode cX4_undo 10 = .ok (.dup, 1) := by decide +kernel
theorem dX4_undo_11 : decode cX4_undo 11 = .ok (.ldc 224, 2) := by decide +kernel
theorem dX4_undo_13 : decode cX4_undo 13 = .ok (.invokespecial 91, 3) := by decide +kernel
theorem dX4_undo_16 : decode cX4_undo 16 = .ok (.athrow, 1) := by decide +kernel
theorem dX4_undo_17 : decode cX4_undo 17 = .ok (.aload_n 0, 1) := by decide +kernel
theorem dX4_undo_18 : decode cX4_undo 18 = .ok (.aload_n 0, 1) := by decide +kernel
theorem dX4_undo_19 : decode cX4_undo 19 = .ok (.getfield 27, 3) := by decide +kernel
theorem dX4_undo_22 : decode cX4_undo 22 = .ok (.iconst 1, 1) := by decide +kernel
theorem dX4_undo_23 : decode cX4_undo 23 = .ok (.isub, 1) := by decide +kernel
theorem dX4_undo_24 : decode cX4_undo 24 = .ok (.iconst 4, 1) := by decide +kernel
theorem dX4_undo_25 : decode cX4_undo 25 = .ok (.invokestatic 226, 3) := by decide +kernel
theorem dX4_undo_28 : decode cX4_undo 28 = .ok (.putfield 27, 3) := by decide +kernel
theorem dX4_undo_31 : decode cX4_undo 31 = .ok (.aload_n 0, 1) := by decide +kernel
theorem dX4_undo_32 : decode cX4_undo 32 = .ok (.aload_n 0, 1) := by decide +kernel
theorem dX4_undo_33 : decode cX4_undo 33 = .ok (.getfield 27, 3) := by decide +kernel
theorem dX4_undo_36 : decode cX4_undo 36 = .ok (.invokevirtual 229, 3) := by decide +kernel
theorem dX4_undo_39 : decode cX4_undo 39 = .ok (.astore_n 1, 1) := by decide +kernel
theorem dX4_undo_40 : decode cX4_undo 40 = .ok (.aload_n 1, 1) := by decide +kernel
theorem dX4_undo_41 : decode cX4_undo 41 = .ok (.ifnull 11, 3) := by decide +kernel
theorem dX4_undo_44 : decode cX4_undo 44 = .ok (.aload_n 0, 1) := by decide +kernel
theorem dX4_undo_45 : decode cX4_undo 45 = .ok (.getfield 10, 3) := by decide +kernel
theorem dX4_undo_48 : decode cX4_undo 48 = .ok (.aload_n 1, 1) := by decide +kernel
theorem dX4_undo_49 : decode cX4_undo 49 = .ok (.invokevirtual 67, 3) := by decide +kernel
theorem dX4_undo_52 : decode cX4_undo 52 = .ok (.aload_n 0, 1) := by decide +kernel
theorem dX4_undo_53 : decode cX4_undo 53 = .ok (.dup, 1) := by decide +kernel
theorem dX4_undo_54 : decode cX4_undo 54 = .ok (.getfield 23, 3) := by decide +kernel
theorem dX4_undo_57 : decode cX4_undo 57 = .ok (.iconst 1, 1) := by decide +kernel
theorem dX4_undo_58 : decode cX4_undo 58 = .ok (.isub, 1) := by decide +kernel
theorem dX4_undo_59 : decode cX4_undo 59 = .ok (.putfield 23, 3) := by decide +kernel
theorem dX4_undo_62 : decode cX4_undo 62 = .ok (.aload_n 0, 1) := by decide +kernel
theorem dX4_undo_63 : decode cX4_undo 63 = .ok (.getfield 23, 3) := by decide +kernel
theorem dX4_undo_66 : decode cX4_undo 66 = .ok (.ireturn, 1) := by decide +kernel
theorem dX4_save_0 : decode cX4_save 0 = .ok (.aload_n 0, 1) := by decide +kernel
theorem dX4_save_1 : decode cX4_save 1 = .ok (.aload_n 0, 1) := by decide +kernel
theorem dX4_save_2 : decode cX4_save 2 = .ok (.getfield 27, 3) := by decide +kernel
theorem dX4_save_5 : decode cX4_save 5 = .ok (.invokevirtual 229, 3) := by decide +kernel
theorem dX4_save_8 : decode cX4_save 8 = .ok (.astore_n 1, 1) := by decide +kernel
theorem dX4_save_9 : decode cX4_save 9 = .ok (.aload_n 1, 1) := by decide +kernel
theorem dX4_save_10 : decode cX4_save 10 = .ok (.ifnull 11, 3) := by decide +kernel
theorem dX4_save_13 : decode cX4_save 13 = .ok (.aload_n 1, 1) := by decide +kernel
theorem dX4_save_14 : decode cX4_save 14 = .ok (.aload_n 0, 1) := by decide +kernel
theorem dX4_save_15 : decode cX4_save 15 = .ok (.getfield 10, 3) := by decide +kernel
theorem dX4_save_18 : decode cX4_save 18 = .ok (.invokevirtual 67, 3) := by decide +kernel
theorem dX4_save_21 : decode cX4_save 21 = .ok (.aload_n 0, 1) := by decide +kernel
theorem dX4_save_22 : decode cX4_save 22 = .ok (.aload_n 0, 1) := by decide +kernel
theorem dX4_save_23 : decode cX4_save 23 = .ok (.getfield 27, 3) := by decide +kernel
theorem dX4_save_26 : decode cX4_save 26 = .ok (.iconst 1, 1) := by decide +kernel
theorem dX4_save_27 : decode cX4_save 27 = .ok (.iadd, 1) := by decide +kernel
theorem dX4_save_28 : decode cX4_save 28 = .ok (.iconst 4, 1) := by decide +kernel
theorem dX4_save_29 : decode cX4_save 29 = .ok (.invokestatic 226, 3) := by decide +kernel
theorem dX4_save_32 : decode cX4_save 32 = .ok (.putfield 27, 3) := by decide +kernel
theorem dX4_save_35 : decode cX4_save 35 = .ok (.aload_n 0, 1) := by decide +kernel
theorem dX4_save_36 : decode cX4_save 36 = .ok (.aload_n 0, 1) := by decide +kernel
theorem dX4_save_37 : decode cX4_save 37 = .ok (.getfield 23, 3) := by decide +kernel
theorem dX4_save_40 : decode cX4_save 40 = .ok (.iconst 1, 1) := by decide +kernel
theorem dX4_save_41 : decode cX4_save 41 = .ok (.iadd, 1) := by decide +kernel
theorem dX4_save_42 : decode cX4_save 42 = .ok (.iconst 4, 1) := by decide +kernel
theorem dX4_save_43 : decode cX4_save 43 = .ok (.invokestatic 247, 3) := by decide +kernel
theorem dX4_save_46 : decode cX4_save 46 = .ok (.putfield 23, 3) := by decide +kernel
theorem dX4_save_49 : decode cX4_save 49 = .ok (.return_, 1) := by decide +kernel
theorem dX4_savedAt_0 : decode cX4_savedAt 0 = .ok (.iload_n 1, 1) := by decide +kernel
theorem dX4_savedAt_1 : decode cX4_savedAt 1 = .ok (.ifCond .lt 21, 3) := by decide +kernel
theorem dX4_savedAt_4 : decode cX4_savedAt 4 = .ok (.iload_n 1, 1) := by decide +kernel
theorem dX4_savedAt_5 : decode cX4_savedAt 5 = .ok (.aload_n 0, 1) := by decide +kernel
theorem dX4_savedAt_6 : decode cX4_savedAt 6 = .ok (.getfield 19, 3) := by decide +kernel
theorem dX4_savedAt_9 : decode cX4_savedAt 9 = .ok (.arraylength, 1) := by decide +kernel
theorem dX4_savedAt_10 : decode cX4_savedAt 10 = .ok (.if_icmp .ge 12, 3) := by decide +kernel
theorem dX4_savedAt_13 : decode cX4_savedAt 13 = .ok (.aload_n 0, 1) := by decide +kernel
theorem dX4_savedAt_14 : decode cX4_savedAt 14 = .ok (.getfield 19, 3) := by decide +kernel
theorem dX4_savedAt_17 : decode cX4_savedAt 17 = .ok (.iload_n 1, 1) := by decide +kernel
theorem dX4_savedAt_18 : decode cX4_savedAt 18 = .ok (.aaload, 1) := by decide +kernel
theorem dX4_savedAt_19 : decode cX4_savedAt 19 = .ok (.goto 4, 3) := by decide +kernel
theorem dX4_savedAt_22 : decode cX4_savedAt 22 = .ok (.aconst_null, 1) := by decide +kernel
theorem dX4_savedAt_23 : decode cX4_savedAt 23 = .ok (.areturn, 1) := by decide +kernel
theorem dX4_acceptTrial_0 : decode cX4_acceptTrial 0 = .ok (.aload_n 0, 1) := by decide +kernel
theorem dX4_acceptTrial_1 : decode cX4_acceptTrial 1 = .ok (.invokevirtual 46, 3) := by decide +kernel
theorem dX4_acceptTrial_4 : decode cX4_acceptTrial 4 = .ok (.aload_n 0, 1) := by decide +kernel
theorem dX4_acceptTrial_5 : decode cX4_acceptTrial 5 = .ok (.getfield 10, 3) := by decide +kernel
theorem dX4_acceptTrial_8 : decode cX4_acceptTrial 8 = .ok (.aload_n 0, 1) := by decide +kernel
theorem dX4_acceptTrial_9 : decode cX4_acceptTrial 9 = .ok (.getfield 16, 3) := by decide +kernel
theorem dX4_acceptTrial_12 : decode cX4_acceptTrial 12 = .ok (.invokevirtual 67, 3) := by decide +kernel
theorem dX4_acceptTrial_15 : decode cX4_acceptTrial 15 = .ok (.return_, 1) := by decide +kernel
theorem dX4_checkTrialRope_0 : decode cX4_checkTrialRope 0 = .ok (.aload_n 0, 1) := by decide +kernel
theorem dX4_checkTrialRope_1 : decode cX4_checkTrialRope 1 = .ok (.getfield 16, 3) := by decide +kernel
theorem dX4_checkTrialRope_4 : decode cX4_checkTrialRope 4 = .ok (.invokevirtual 80, 3) := by decide +kernel
theorem dX4_checkTrialRope_7 : decode cX4_checkTrialRope 7 = .ok (.ifCond .ge 13, 3) := by decide +kernel
theorem dX4_checkTrialRope_10 : decode cX4_checkTrialRope 10 = .ok (.new 87, 3) := by decide +kernel
theorem dX4_checkTrialRope_13 : decode cX4_checkTrialRope 13 = .ok (.dup, 1) := by decide +kernel
theorem dX4_checkTrialRope_14 : decode cX4_checkTrialRope 14 = .ok (.ldc 250, 2) := by decide +kernel
theorem dX4_checkTrialRope_16 : decode cX4_checkTrialRope 16 = .ok (.invokespecial 91, 3) := by decide +kernel
theorem dX4_checkTrialRope_19 : decode cX4_checkTrialRope 19 = .ok (.athrow, 1) := by decide +kernel
theorem dX4_checkTrialRope_20 : decode cX4_checkTrialRope 20 = .ok (.return_, 1) := by decide +kernel
theorem dX4_isBlock_0 : decode cX4_isBlock 0 = .ok (.iload_n 0, 1) := by decide +kernel
theorem dX4_isBlock_1 : decode cX4_isBlock 1 = .ok (.ifCond .lt 12, 3) := by decide +kernel
theorem dX4_isBlock_4 : decode cX4_isBlock 4 = .ok (.iload_n 0, 1) := by decide +kernel
theorem dX4_isBlock_5 : decode cX4_isBlock 5 = .ok (.iconst 4, 1) := by decide +kernel
theorem dX4_isBlock_6 : decode cX4_isBlock 6 = .ok (.if_icmp .ge 7, 3) := by decide +kernel
theorem dX4_isBlock_9 : decode cX4_isBlock 9 = .ok (.iconst 1, 1) := by decide +kernel
theorem dX4_isBlock_10 : decode cX4_isBlock 10 = .ok (.goto 4, 3) := by decide +kernel
theorem dX4_isBlock_13 : decode cX4_isBlock 13 = .ok (.iconst 0, 1) := by decide +kernel
theorem dX4_isBlock_14 : decode cX4_isBlock 14 = .ok (.ireturn, 1) := by decide +kernel
theorem dX4_checkBlock_0 : decode cX4_checkBlock 0 = .ok (.iload_n 0, 1) := by decide +kernel
theorem dX4_checkBlock_1 : decode cX4_checkBlock 1 = .ok (.invokestatic 252, 3) := by decide +kernel
theorem dX4_checkBlock_4 : decode cX4_checkBlock 4 = .ok (.ifCond .ne 14, 3) := by decide +kernel
theorem dX4_checkBlock_7 : decode cX4_checkBlock 7 = .ok (.new 102, 3) := by decide +kernel
theorem dX4_checkBlock_10 : decode cX4_checkBlock 10 = .ok (.dup, 1) := by decide +kernel
theorem dX4_checkBlock_11 : decode cX4_checkBlock 11 = .ok (.ldc_w 256, 3) := by decide +kernel
theorem dX4_checkBlock_14 : decode cX4_checkBlock 14 = .ok (.invokespecial 106, 3) := by decide +kernel
theorem dX4_checkBlock_17 : decode cX4_checkBlock 17 = .ok (.athrow, 1) := by decide +kernel
theorem dX4_checkBlock_18 : decode cX4_checkBlock 18 = .ok (.return_, 1) := by decide +kernel
theorem dX4_checkPulley_0 : decode cX4_checkPulley 0 = .ok (.iload_n 1, 1) := by decide +kernel
theorem dX4_checkPulley_1 : decode cX4_checkPulley 1 = .ok (.ifCond .lt 17, 3) := by decide +kernel
theorem dX4_checkPulley_4 : decode cX4_checkPulley 4 = .ok (.iload_n 1, 1) := by decide +kernel
theorem dX4_checkPulley_5 : decode cX4_checkPulley 5 = .ok (.aload_n 0, 1) := by decide +kernel
theorem dX4_checkPulley_6 : decode cX4_checkPulley 6 = .ok (.getfield 10, 3) := by decide +kernel
theorem dX4_checkPulley_9 : decode cX4_checkPulley 9 = .ok (.getfield 57, 3) := by decide +kernel
theorem dX4_checkPulley_12 : decode cX4_checkPulley 12 = .ok (.getfield 84, 3) := by decide +kernel
theorem dX4_checkPulley_15 : decode cX4_checkPulley 15 = .ok (.if_icmp .lt 14, 3) := by decide +kernel
theorem dX4_checkPulley_18 : decode cX4_checkPulley 18 = .ok (.new 102, 3) := by decide +kernel
theorem dX4_checkPulley_21 : decode cX4_checkPulley 21 = .ok (.dup, 1) := by decide +kernel
theorem dX4_checkPulley_22 : decode cX4_checkPulley 22 = .ok (.ldc_w 258, 3) := by decide +kernel
theorem dX4_checkPulley_25 : decode cX4_checkPulley 25 = .ok (.invokespecial 106, 3) := by decide +kernel
theorem dX4_checkPulley_28 : decode cX4_checkPulley 28 = .ok (.athrow, 1) := by decide +kernel
theorem dX4_checkPulley_29 : decode cX4_checkPulley 29 = .ok (.return_, 1) := by decide +kernel
theorem dX4_checkRange_0 : decode cX4_checkRange 0 = .ok (.iload_n 0, 1) := by decide +kernel
theorem dX4_checkRange_1 : decode cX4_checkRange 1 = .ok (.iload_n 1, 1) := by decide +kernel
theorem dX4_checkRange_2 : decode cX4_checkRange 2 = .ok (.if_icmp .lt 8, 3) := by decide +kernel
theorem dX4_checkRange_5 : decode cX4_checkRange 5 = .ok (.iload_n 0, 1) := by decide +kernel
theorem dX4_checkRange_6 : decode cX4_checkRange 6 = .ok (.iload_n 2, 1) := by decide +kernel
theorem dX4_checkRange_7 : decode cX4_checkRange 7 = .ok (.if_icmp .le 14, 3) := by decide +kernel
theorem dX4_checkRange_10 : decode cX4_checkRange 10 = .ok (.new 132, 3) := by decide +kernel
theorem dX4_checkRange_13 : decode cX4_checkRange 13 = .ok (.dup, 1) := by decide +kernel
theorem dX4_checkRange_14 : decode cX4_checkRange 14 = .ok (.ldc_w 260, 3) := by decide +kernel
theorem dX4_checkRange_17 : decode cX4_checkRange 17 = .ok (.invokespecial 136, 3) := by decide +kernel
theorem dX4_checkRange_20 : decode cX4_checkRange 20 = .ok (.athrow, 1) := by decide +kernel
theorem dX4_checkRange_21 : decode cX4_checkRange 21 = .ok (.return_, 1) := by decide +kernel
theorem dX4_at_0 : decode cX4_at 0 = .ok (.iload_n 1, 1) := by decide +kernel
theorem dX4_at_1 : decode cX4_at 1 = .ok (.ifCond .lt 15, 3) := by decide +kernel
theorem dX4_at_4 : decode cX4_at 4 = .ok (.iload_n 1, 1) := by decide +kernel
theorem dX4_at_5 : decode cX4_at 5 = .ok (.aload_n 0, 1) := by decide +kernel
theorem dX4_at_6 : decode cX4_at 6 = .ok (.arraylength, 1) := by decide +kernel
theorem dX4_at_7 : decode cX4_at 7 = .ok (.if_icmp .ge 9, 3) := by decide +kernel
theorem dX4_at_10 : decode cX4_at 10 = .ok (.aload_n 0, 1) := by decide +kernel
theorem dX4_at_11 : decode cX4_at 11 = .ok (.iload_n 1, 1) := by decide +kernel
theorem dX4_at_12 : decode cX4_at 12 = .ok (.iaload, 1) := by decide +kernel
theorem dX4_at_13 : decode cX4_at 13 = .ok (.goto 4, 3) := by decide +kernel
theorem dX4_at_16 : decode cX4_at 16 = .ok (.iconst 0, 1) := by decide +kernel
theorem dX4_at_17 : decode cX4_at 17 = .ok (.ireturn, 1) := by decide +kernel
theorem dX4_put_0 : decode cX4_put 0 = .ok (.iload_n 1, 1) := by decide +kernel
theorem dX4_put_1 : decode cX4_put 1 = .ok (.ifCond .lt 13, 3) := by decide +kernel
theorem dX4_put_4 : decode cX4_put 4 = .ok (.iload_n 1, 1) := by decide +kernel
theorem dX4_put_5 : decode cX4_put 5 = .ok (.aload_n 0, 1) := by decide +kernel
theorem dX4_put_6 : decode cX4_put 6 = .ok (.arraylength, 1) := by decide +kernel
theorem dX4_put_7 : decode cX4_put 7 = .ok (.if_icmp .ge 7, 3) := by decide +kernel
theorem dX4_put_10 : decode cX4_put 10 = .ok (.aload_n 0, 1) := by decide +kernel
theorem dX4_put_11 : decode cX4_put 11 = .ok (.iload_n 1, 1) := by decide +kernel
theorem dX4_put_12 : decode cX4_put 12 = .ok (.iload_n 2, 1) := by decide +kernel
theorem dX4_put_13 : decode cX4_put 13 = .ok (.iastore, 1) := by decide +kernel
theorem dX4_put_14 : decode cX4_put 14 = .ok (.return_, 1) := by decide +kernel
theorem dX4_copyRow_0 : decode cX4_copyRow 0 = .ok (.iconst 0, 1) := by decide +kernel
theorem dX4_copyRow_1 : decode cX4_copyRow 1 = .ok (.istore_n 2, 1) := by decide +kernel
theorem dX4_copyRow_2 : decode cX4_copyRow 2 = .ok (.iload_n 2, 1) := by decide +kernel
theorem dX4_copyRow_3 : decode cX4_copyRow 3 = .ok (.aload_n 1, 1) := by decide +kernel
theorem dX4_copyRow_4 : decode cX4_copyRow 4 = .ok (.arraylength, 1) := by decide +kernel
theorem dX4_copyRow_5 : decode cX4_copyRow 5 = .ok (.if_icmp .ge 21, 3) := by decide +kernel
theorem dX4_copyRow_8 : decode cX4_copyRow 8 = .ok (.iload_n 2, 1) := by decide +kernel
theorem dX4_copyRow_9 : decode cX4_copyRow 9 = .ok (.aload_n 0, 1) := by decide +kernel
theorem dX4_copyRow_10 : decode cX4_copyRow 10 = .ok (.arraylength, 1) := by decide +kernel
theorem dX4_copyRow_11 : decode cX4_copyRow 11 = .ok (.if_icmp .ge 15, 3) := by decide +kernel
theorem dX4_copyRow_14 : decode cX4_copyRow 14 = .ok (.aload_n 1, 1) := by decide +kernel
theorem dX4_copyRow_15 : decode cX4_copyRow 15 = .ok (.iload_n 2, 1) := by decide +kernel
theorem dX4_copyRow_16 : decode cX4_copyRow 16 = .ok (.aload_n 0, 1) := by decide +kernel
theorem dX4_copyRow_17 : decode cX4_copyRow 17 = .ok (.iload_n 2, 1) := by decide +kernel
theorem dX4_copyRow_18 : decode cX4_copyRow 18 = .ok (.iaload, 1) := by decide +kernel
theorem dX4_copyRow_19 : decode cX4_copyRow 19 = .ok (.iastore, 1) := by decide +kernel
theorem dX4_copyRow_20 : decode cX4_copyRow 20 = .ok (.iinc 2 1, 3) := by decide +kernel
theorem dX4_copyRow_23 : decode cX4_copyRow 23 = .ok (.goto (-21), 3) := by decide +kernel
theorem dX4_copyRow_26 : decode cX4_copyRow 26 = .ok (.return_, 1) := by decide +kernel
