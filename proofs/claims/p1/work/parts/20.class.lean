theorem dX1_init_0 : decode cX1_init 0 = .ok (.aload_n 0, 1) := by decide +kernel
theorem dX1_init_1 : decode cX1_init 1 = .ok (.invokespecial 1, 3) := by decide +kernel
theorem dX1_init_10 : decode cX1_init 10 = .ok (.bipush 10, 2) := by decide +kernel
theorem dX1_init_12 : decode cX1_init 12 = .ok (.putfield 13, 3) := by decide +kernel
theorem dX1_init_15 : decode cX1_init 15 = .ok (.aload_n 0, 1) := by decide +kernel
theorem dX1_init_16 : decode cX1_init 16 = .ok (.iload_n 1, 1) := by decide +kernel
theorem dX1_init_17 : decode cX1_init 17 = .ok (.putfield 16, 3) := by decide +kernel
theorem dX1_init_20 : decode cX1_init 20 = .ok (.return_, 1) := by decide +kernel
theorem dX1_init_4 : decode cX1_init 4 = .ok (.aload_n 0, 1) := by decide +kernel
theorem dX1_init_5 : decode cX1_init 5 = .ok (.iconst 1, 1) := by decide +kernel
theorem dX1_init_6 : decode cX1_init 6 = .ok (.putfield 7, 3) := by decide +kernel
theorem dX1_init_9 : decode cX1_init 9 = .ok (.aload_n 0, 1) := by decide +kernel
theorem dX4_init_0 : decode cX4_init 0 = .ok (.aload_n 0, 1) := by decide +kernel
theorem dX4_init_1 : decode cX4_init 1 = .ok (.invokespecial 3, 3) := by decide +kernel
theorem dX4_init_12 : decode cX4_init 12 = .ok (.iconst 0, 1) := by decide +kernel
theorem dX4_init_13 : decode cX4_init 13 = .ok (.istore_n 1, 1) := by decide +kernel
theorem dX4_init_14 : decode cX4_init 14 = .ok (.iload_n 1, 1) := by decide +kernel
theorem dX4_init_15 : decode cX4_init 15 = .ok (.aload_n 0, 1) := by decide +kernel
theorem dX4_init_16 : decode cX4_init 16 = .ok (.getfield 9, 3) := by decide +kernel
theorem dX4_init_19 : decode cX4_init 19 = .ok (.arraylength, 1) := by decide +kernel
theorem dX4_init_20 : decode cX4_init 20 = .ok (.if_icmp .ge 16, 3) := by decide +kernel
theorem dX4_init_23 : decode cX4_init 23 = .ok (.aload_n 0, 1) := by decide +kernel
theorem dX4_init_24 : decode cX4_init 24 = .ok (.getfield 9, 3) := by decide +kernel
theorem dX4_init_27 : decode cX4_init 27 = .ok (.iload_n 1, 1) := by decide +kernel
theorem dX4_init_28 : decode cX4_init 28 = .ok (.iconst (-1), 1) := by decide +kernel
theorem dX4_init_29 : decode cX4_init 29 = .ok (.iastore, 1) := by decide +kernel
theorem dX4_init_30 : decode cX4_init 30 = .ok (.iinc 1 1, 3) := by decide +kernel
theorem dX4_init_33 : decode cX4_init 33 = .ok (.goto (-19), 3) := by decide +kernel
theorem dX4_init_36 : decode cX4_init 36 = .ok (.return_, 1) := by decide +kernel
theorem dX4_init_4 : decode cX4_init 4 = .ok (.aload_n 0, 1) := by decide +kernel
theorem dX4_init_5 : decode cX4_init 5 = .ok (.bipush 6, 2) := by decide +kernel
theorem dX4_init_7 : decode cX4_init 7 = .ok (.newarray .int, 2) := by decide +kernel
theorem dX4_init_9 : decode cX4_init 9 = .ok (.putfield 9, 3) := by decide +kernel
theorem dX5_addFloor_0 : decode cX5_addFloor 0 = .ok (.iload_n 1, 1) := by decide +kernel
theorem dX5_addFloor_1 : decode cX5_addFloor 1 = .ok (.iconst 3, 1) := by decide +kernel
theorem dX5_addFloor_11 : decode cX5_addFloor 11 = .ok (.new 42, 3) := by decide +kernel
theorem dX5_addFloor_14 : decode cX5_addFloor 14 = .ok (.dup, 1) := by decide +kernel
theorem dX5_addFloor_15 : decode cX5_addFloor 15 = .ok (.ldc 44, 2) := by decide +kernel
theorem dX5_addFloor_17 : decode cX5_addFloor 17 = .ok (.invokespecial 46, 3) := by decide +kernel
theorem dX5_addFloor_2 : decode cX5_addFloor 2 = .ok (.if_icmp .lt 9, 3) := by decide +kernel
theorem dX5_addFloor_20 : decode cX5_addFloor 20 = .ok (.athrow, 1) := by decide +kernel
theorem dX5_addFloor_21 : decode cX5_addFloor 21 = .ok (.aload_n 0, 1) := by decide +kernel
theorem dX5_addFloor_22 : decode cX5_addFloor 22 = .ok (.getfield 10, 3) := by decide +kernel
theorem dX5_addFloor_25 : decode cX5_addFloor 25 = .ok (.invokevirtual 49, 3) := by decide +kernel
theorem dX5_addFloor_28 : decode cX5_addFloor 28 = .ok (.bipush 6, 2) := by decide +kernel
theorem dX5_addFloor_30 : decode cX5_addFloor 30 = .ok (.if_icmp .lt 13, 3) := by decide +kernel
theorem dX5_addFloor_43 : decode cX5_addFloor 43 = .ok (.aload_n 0, 1) := by decide +kernel
theorem dX5_addFloor_44 : decode cX5_addFloor 44 = .ok (.getfield 10, 3) := by decide +kernel
theorem dX5_addFloor_47 : decode cX5_addFloor 47 = .ok (.new 58, 3) := by decide +kernel
theorem dX5_addFloor_5 : decode cX5_addFloor 5 = .ok (.iload_n 1, 1) := by decide +kernel
theorem dX5_addFloor_50 : decode cX5_addFloor 50 = .ok (.dup, 1) := by decide +kernel
theorem dX5_addFloor_51 : decode cX5_addFloor 51 = .ok (.iload_n 1, 1) := by decide +kernel
theorem dX5_addFloor_52 : decode cX5_addFloor 52 = .ok (.invokespecial 60, 3) := by decide +kernel
theorem dX5_addFloor_55 : decode cX5_addFloor 55 = .ok (.invokevirtual 63, 3) := by decide +kernel
theorem dX5_addFloor_58 : decode cX5_addFloor 58 = .ok (.pop, 1) := by decide +kernel
theorem dX5_addFloor_59 : decode cX5_addFloor 59 = .ok (.aload_n 0, 1) := by decide +kernel
theorem dX5_addFloor_6 : decode cX5_addFloor 6 = .ok (.bipush 12, 2) := by decide +kernel
theorem dX5_addFloor_60 : decode cX5_addFloor 60 = .ok (.getfield 10, 3) := by decide +kernel
theorem dX5_addFloor_63 : decode cX5_addFloor 63 = .ok (.invokevirtual 49, 3) := by decide +kernel
theorem dX5_addFloor_66 : decode cX5_addFloor 66 = .ok (.iconst 1, 1) := by decide +kernel
theorem dX5_addFloor_67 : decode cX5_addFloor 67 = .ok (.isub, 1) := by decide +kernel
theorem dX5_addFloor_68 : decode cX5_addFloor 68 = .ok (.ireturn, 1) := by decide +kernel
theorem dX5_addFloor_8 : decode cX5_addFloor 8 = .ok (.if_icmp .le 13, 3) := by decide +kernel
theorem dX5_addGuest_0 : decode cX5_addGuest 0 = .ok (.aload_n 0, 1) := by decide +kernel
theorem dX5_addGuest_1 : decode cX5_addGuest 1 = .ok (.iload_n 1, 1) := by decide +kernel
theorem dX5_addGuest_12 : decode cX5_addGuest 12 = .ok (.dup, 1) := by decide +kernel
theorem dX5_addGuest_13 : decode cX5_addGuest 13 = .ok (.ldc 124, 2) := by decide +kernel
theorem dX5_addGuest_15 : decode cX5_addGuest 15 = .ok (.invokespecial 75, 3) := by decide +kernel
theorem dX5_addGuest_18 : decode cX5_addGuest 18 = .ok (.athrow, 1) := by decide +kernel
theorem dX5_addGuest_2 : decode cX5_addGuest 2 = .ok (.iload_n 2, 1) := by decide +kernel
theorem dX5_addGuest_3 : decode cX5_addGuest 3 = .ok (.invokevirtual 120, 3) := by decide +kernel
theorem dX5_addGuest_6 : decode cX5_addGuest 6 = .ok (.ifCond .ne 13, 3) := by decide +kernel
theorem dX5_addGuest_9 : decode cX5_addGuest 9 = .ok (.new 71, 3) := by decide +kernel
theorem dX5_addLift_0 : decode cX5_addLift 0 = .ok (.aload_n 0, 1) := by decide +kernel
theorem dX5_addLift_1 : decode cX5_addLift 1 = .ok (.getfield 16, 3) := by decide +kernel
theorem dX5_addLift_21 : decode cX5_addLift 21 = .ok (.aload_n 0, 1) := by decide +kernel
theorem dX5_addLift_22 : decode cX5_addLift 22 = .ok (.getfield 16, 3) := by decide +kernel
theorem dX5_addLift_25 : decode cX5_addLift 25 = .ok (.new 100, 3) := by decide +kernel
theorem dX5_addLift_28 : decode cX5_addLift 28 = .ok (.dup, 1) := by decide +kernel
theorem dX5_addLift_29 : decode cX5_addLift 29 = .ok (.invokespecial 102, 3) := by decide +kernel
theorem dX5_addLift_32 : decode cX5_addLift 32 = .ok (.invokevirtual 63, 3) := by decide +kernel
theorem dX5_addLift_35 : decode cX5_addLift 35 = .ok (.pop, 1) := by decide +kernel
theorem dX5_addLift_36 : decode cX5_addLift 36 = .ok (.aload_n 0, 1) := by decide +kernel
theorem dX5_addLift_37 : decode cX5_addLift 37 = .ok (.getfield 16, 3) := by decide +kernel
theorem dX5_addLift_4 : decode cX5_addLift 4 = .ok (.invokevirtual 49, 3) := by decide +kernel
theorem dX5_addLift_40 : decode cX5_addLift 40 = .ok (.invokevirtual 49, 3) := by decide +kernel
theorem dX5_addLift_43 : decode cX5_addLift 43 = .ok (.iconst 1, 1) := by decide +kernel
theorem dX5_addLift_44 : decode cX5_addLift 44 = .ok (.isub, 1) := by decide +kernel
theorem dX5_addLift_45 : decode cX5_addLift 45 = .ok (.ireturn, 1) := by decide +kernel
theorem dX5_addLift_7 : decode cX5_addLift 7 = .ok (.iconst 4, 1) := by decide +kernel
theorem dX5_addLift_8 : decode cX5_addLift 8 = .ok (.if_icmp .lt 13, 3) := by decide +kernel
theorem dX5_advise_0 : decode cX5_advise 0 = .ok (.aload_n 0, 1) := by decide +kernel
theorem dX5_advise_1 : decode cX5_advise 1 = .ok (.iload_n 1, 1) := by decide +kernel
theorem dX5_advise_11 : decode cX5_advise 11 = .ok (.dup, 1) := by decide +kernel
theorem dX5_advise_12 : decode cX5_advise 12 = .ok (.ldc 181, 2) := by decide +kernel
theorem dX5_advise_14 : decode cX5_advise 14 = .ok (.invokespecial 75, 3) := by decide +kernel
theorem dX5_advise_17 : decode cX5_advise 17 = .ok (.athrow, 1) := by decide +kernel
theorem dX5_advise_2 : decode cX5_advise 2 = .ok (.invokevirtual 132, 3) := by decide +kernel
theorem dX5_advise_5 : decode cX5_advise 5 = .ok (.ifCond .ne 13, 3) := by decide +kernel
theorem dX5_advise_8 : decode cX5_advise 8 = .ok (.new 71, 3) := by decide +kernel
theorem dX5_byteAt_0 : decode cX5_byteAt 0 = .ok (.iload_n 1, 1) := by decide +kernel
theorem dX5_byteAt_1 : decode cX5_byteAt 1 = .ok (.ifCond .lt 20, 3) := by decide +kernel
theorem dX5_byteAt_21 : decode cX5_byteAt 21 = .ok (.new 71, 3) := by decide +kernel
theorem dX5_byteAt_24 : decode cX5_byteAt 24 = .ok (.dup, 1) := by decide +kernel
theorem dX5_byteAt_25 : decode cX5_byteAt 25 = .ok (.ldc_w 267, 3) := by decide +kernel
theorem dX5_byteAt_28 : decode cX5_byteAt 28 = .ok (.invokespecial 75, 3) := by decide +kernel
theorem dX5_byteAt_31 : decode cX5_byteAt 31 = .ok (.athrow, 1) := by decide +kernel
theorem dX5_byteAt_4 : decode cX5_byteAt 4 = .ok (.iload_n 1, 1) := by decide +kernel
theorem dX5_byteAt_5 : decode cX5_byteAt 5 = .ok (.aload_n 0, 1) := by decide +kernel
theorem dX5_byteAt_6 : decode cX5_byteAt 6 = .ok (.getfield 206, 3) := by decide +kernel
theorem dX5_byteAt_9 : decode cX5_byteAt 9 = .ok (.if_icmp .ge 12, 3) := by decide +kernel
theorem dX5_count_0 : decode cX5_count 0 = .ok (.iload_n 1, 1) := by decide +kernel
theorem dX5_count_1 : decode cX5_count 1 = .ok (.tableswitch 96 0 7 #[47, 55, 63, 71, 76, 81, 86, 91], 47) := by decide +kernel
theorem dX5_count_100 : decode cX5_count 100 = .ok (.dup, 1) := by decide +kernel
theorem dX5_count_101 : decode cX5_count 101 = .ok (.ldc 209, 2) := by decide +kernel
theorem dX5_count_103 : decode cX5_count 103 = .ok (.invokespecial 75, 3) := by decide +kernel
theorem dX5_count_106 : decode cX5_count 106 = .ok (.athrow, 1) := by decide +kernel
theorem dX5_count_48 : decode cX5_count 48 = .ok (.aload_n 0, 1) := by decide +kernel
theorem dX5_count_49 : decode cX5_count 49 = .ok (.getfield 10, 3) := by decide +kernel
theorem dX5_count_52 : decode cX5_count 52 = .ok (.invokevirtual 49, 3) := by decide +kernel
theorem dX5_count_55 : decode cX5_count 55 = .ok (.ireturn, 1) := by decide +kernel
theorem dX5_count_56 : decode cX5_count 56 = .ok (.aload_n 0, 1) := by decide +kernel
theorem dX5_count_57 : decode cX5_count 57 = .ok (.getfield 16, 3) := by decide +kernel
theorem dX5_count_60 : decode cX5_count 60 = .ok (.invokevirtual 49, 3) := by decide +kernel
theorem dX5_count_63 : decode cX5_count 63 = .ok (.ireturn, 1) := by decide +kernel
theorem dX5_count_64 : decode cX5_count 64 = .ok (.aload_n 0, 1) := by decide +kernel
theorem dX5_count_65 : decode cX5_count 65 = .ok (.getfield 19, 3) := by decide +kernel
theorem dX5_count_68 : decode cX5_count 68 = .ok (.invokevirtual 49, 3) := by decide +kernel
theorem dX5_count_71 : decode cX5_count 71 = .ok (.ireturn, 1) := by decide +kernel
theorem dX5_count_72 : decode cX5_count 72 = .ok (.aload_n 0, 1) := by decide +kernel
theorem dX5_count_73 : decode cX5_count 73 = .ok (.invokevirtual 194, 3) := by decide +kernel
theorem dX5_count_76 : decode cX5_count 76 = .ok (.ireturn, 1) := by decide +kernel
theorem dX5_count_77 : decode cX5_count 77 = .ok (.aload_n 0, 1) := by decide +kernel
theorem dX5_count_78 : decode cX5_count 78 = .ok (.invokevirtual 197, 3) := by decide +kernel
theorem dX5_count_81 : decode cX5_count 81 = .ok (.ireturn, 1) := by decide +kernel
theorem dX5_count_82 : decode cX5_count 82 = .ok (.aload_n 0, 1) := by decide +kernel
theorem dX5_count_83 : decode cX5_count 83 = .ok (.getfield 200, 3) := by decide +kernel
theorem dX5_count_86 : decode cX5_count 86 = .ok (.ireturn, 1) := by decide +kernel
theorem dX5_count_87 : decode cX5_count 87 = .ok (.aload_n 0, 1) := by decide +kernel
theorem dX5_count_88 : decode cX5_count 88 = .ok (.getfield 203, 3) := by decide +kernel
theorem dX5_count_91 : decode cX5_count 91 = .ok (.ireturn, 1) := by decide +kernel
theorem dX5_count_92 : decode cX5_count 92 = .ok (.aload_n 0, 1) := by decide +kernel
theorem dX5_count_93 : decode cX5_count 93 = .ok (.getfield 206, 3) := by decide +kernel
theorem dX5_count_96 : decode cX5_count 96 = .ok (.ireturn, 1) := by decide +kernel
theorem dX5_count_97 : decode cX5_count 97 = .ok (.new 71, 3) := by decide +kernel
theorem dX5_digest_0 : decode cX5_digest 0 = .ok (.ldc2_w 269, 3) := by decide +kernel
theorem dX5_digest_12 : decode cX5_digest 12 = .ok (.lload_n 1, 1) := by decide +kernel
theorem dX5_digest_13 : decode cX5_digest 13 = .ok (.ldc2_w 271, 3) := by decide +kernel
theorem dX5_digest_16 : decode cX5_digest 16 = .ok (.lmul, 1) := by decide +kernel
theorem dX5_digest_17 : decode cX5_digest 17 = .ok (.aload_n 0, 1) := by decide +kernel
theorem dX5_digest_175 : decode cX5_digest 175 = .ok (.iconst 0, 1) := by decide +kernel
theorem dX5_digest_176 : decode cX5_digest 176 = .ok (.istore_n 3, 1) := by decide +kernel
theorem dX5_digest_177 : decode cX5_digest 177 = .ok (.iload_n 3, 1) := by decide +kernel
theorem dX5_digest_178 : decode cX5_digest 178 = .ok (.aload_n 0, 1) := by decide +kernel
theorem dX5_digest_179 : decode cX5_digest 179 = .ok (.getfield 19, 3) := by decide +kernel
theorem dX5_digest_18 : decode cX5_digest 18 = .ok (.iload_n 3, 1) := by decide +kernel
theorem dX5_digest_182 : decode cX5_digest 182 = .ok (.invokevirtual 49, 3) := by decide +kernel
theorem dX5_digest_185 : decode cX5_digest 185 = .ok (.if_icmp .ge 40, 3) := by decide +kernel
theorem dX5_digest_19 : decode cX5_digest 19 = .ok (.invokevirtual 273, 3) := by decide +kernel
theorem dX5_digest_22 : decode cX5_digest 22 = .ok (.i2l, 1) := by decide +kernel
theorem dX5_digest_225 : decode cX5_digest 225 = .ok (.iconst 0, 1) := by decide +kernel
theorem dX5_digest_226 : decode cX5_digest 226 = .ok (.istore_n 3, 1) := by decide +kernel
theorem dX5_digest_227 : decode cX5_digest 227 = .ok (.iload_n 3, 1) := by decide +kernel
theorem dX5_digest_228 : decode cX5_digest 228 = .ok (.aload_n 0, 1) := by decide +kernel
theorem dX5_digest_229 : decode cX5_digest 229 = .ok (.getfield 206, 3) := by decide +kernel
theorem dX5_digest_23 : decode cX5_digest 23 = .ok (.ladd, 1) := by decide +kernel
theorem dX5_digest_232 : decode cX5_digest 232 = .ok (.if_icmp .ge 32, 3) := by decide +kernel
theorem dX5_digest_24 : decode cX5_digest 24 = .ok (.lstore_n 1, 1) := by decide +kernel
theorem dX5_digest_25 : decode cX5_digest 25 = .ok (.iinc 3 1, 3) := by decide +kernel
theorem dX5_digest_264 : decode cX5_digest 264 = .ok (.lload_n 1, 1) := by decide +kernel
theorem dX5_digest_265 : decode cX5_digest 265 = .ok (.lreturn, 1) := by decide +kernel
theorem dX5_digest_28 : decode cX5_digest 28 = .ok (.goto (-22), 3) := by decide +kernel
theorem dX5_digest_3 : decode cX5_digest 3 = .ok (.lstore_n 1, 1) := by decide +kernel
theorem dX5_digest_31 : decode cX5_digest 31 = .ok (.iconst 0, 1) := by decide +kernel
theorem dX5_digest_32 : decode cX5_digest 32 = .ok (.istore_n 3, 1) := by decide +kernel
theorem dX5_digest_33 : decode cX5_digest 33 = .ok (.iload_n 3, 1) := by decide +kernel
theorem dX5_digest_34 : decode cX5_digest 34 = .ok (.aload_n 0, 1) := by decide +kernel
theorem dX5_digest_35 : decode cX5_digest 35 = .ok (.getfield 10, 3) := by decide +kernel
theorem dX5_digest_38 : decode cX5_digest 38 = .ok (.invokevirtual 49, 3) := by decide +kernel
theorem dX5_digest_4 : decode cX5_digest 4 = .ok (.iconst 0, 1) := by decide +kernel
theorem dX5_digest_41 : decode cX5_digest 41 = .ok (.if_icmp .ge 40, 3) := by decide +kernel
theorem dX5_digest_5 : decode cX5_digest 5 = .ok (.istore_n 3, 1) := by decide +kernel
theorem dX5_digest_6 : decode cX5_digest 6 = .ok (.iload_n 3, 1) := by decide +kernel
theorem dX5_digest_7 : decode cX5_digest 7 = .ok (.bipush 8, 2) := by decide +kernel
theorem dX5_digest_81 : decode cX5_digest 81 = .ok (.iconst 0, 1) := by decide +kernel
theorem dX5_digest_82 : decode cX5_digest 82 = .ok (.istore_n 3, 1) := by decide +kernel
theorem dX5_digest_83 : decode cX5_digest 83 = .ok (.iload_n 3, 1) := by decide +kernel
theorem dX5_digest_84 : decode cX5_digest 84 = .ok (.aload_n 0, 1) := by decide +kernel
theorem dX5_digest_85 : decode cX5_digest 85 = .ok (.getfield 16, 3) := by decide +kernel
theorem dX5_digest_88 : decode cX5_digest 88 = .ok (.invokevirtual 49, 3) := by decide +kernel
theorem dX5_digest_9 : decode cX5_digest 9 = .ok (.if_icmp .ge 22, 3) := by decide +kernel
theorem dX5_digest_91 : decode cX5_digest 91 = .ok (.if_icmp .ge 84, 3) := by decide +kernel
theorem dX5_floor_0 : decode cX5_floor 0 = .ok (.aload_n 0, 1) := by decide +kernel
theorem dX5_floor_1 : decode cX5_floor 1 = .ok (.iload_n 1, 1) := by decide +kernel
theorem dX5_floor_11 : decode cX5_floor 11 = .ok (.dup, 1) := by decide +kernel
theorem dX5_floor_12 : decode cX5_floor 12 = .ok (.ldc 73, 2) := by decide +kernel
theorem dX5_floor_14 : decode cX5_floor 14 = .ok (.invokespecial 75, 3) := by decide +kernel
theorem dX5_floor_17 : decode cX5_floor 17 = .ok (.athrow, 1) := by decide +kernel
theorem dX5_floor_2 : decode cX5_floor 2 = .ok (.invokevirtual 67, 3) := by decide +kernel
theorem dX5_floor_5 : decode cX5_floor 5 = .ok (.ifCond .ne 13, 3) := by decide +kernel
theorem dX5_floor_8 : decode cX5_floor 8 = .ok (.new 71, 3) := by decide +kernel
theorem dX5_foresee_0 : decode cX5_foresee 0 = .ok (.aload_n 0, 1) := by decide +kernel
theorem dX5_foresee_1 : decode cX5_foresee 1 = .ok (.iload_n 1, 1) := by decide +kernel
theorem dX5_foresee_11 : decode cX5_foresee 11 = .ok (.dup, 1) := by decide +kernel
theorem dX5_foresee_12 : decode cX5_foresee 12 = .ok (.ldc 181, 2) := by decide +kernel
theorem dX5_foresee_14 : decode cX5_foresee 14 = .ok (.invokespecial 75, 3) := by decide +kernel
theorem dX5_foresee_17 : decode cX5_foresee 17 = .ok (.athrow, 1) := by decide +kernel
theorem dX5_foresee_2 : decode cX5_foresee 2 = .ok (.invokevirtual 132, 3) := by decide +kernel
theorem dX5_foresee_5 : decode cX5_foresee 5 = .ok (.ifCond .ne 13, 3) := by decide +kernel
theorem dX5_foresee_8 : decode cX5_foresee 8 = .ok (.new 71, 3) := by decide +kernel
theorem dX5_guest_0 : decode cX5_guest 0 = .ok (.aload_n 0, 1) := by decide +kernel
theorem dX5_guest_1 : decode cX5_guest 1 = .ok (.iload_n 1, 1) := by decide +kernel
theorem dX5_guest_11 : decode cX5_guest 11 = .ok (.dup, 1) := by decide +kernel
theorem dX5_guest_12 : decode cX5_guest 12 = .ok (.ldc 181, 2) := by decide +kernel
theorem dX5_guest_14 : decode cX5_guest 14 = .ok (.invokespecial 75, 3) := by decide +kernel
theorem dX5_guest_17 : decode cX5_guest 17 = .ok (.athrow, 1) := by decide +kernel
theorem dX5_guest_2 : decode cX5_guest 2 = .ok (.invokevirtual 132, 3) := by decide +kernel
theorem dX5_guest_5 : decode cX5_guest 5 = .ok (.ifCond .ne 13, 3) := by decide +kernel
theorem dX5_guest_8 : decode cX5_guest 8 = .ok (.new 71, 3) := by decide +kernel
theorem dX5_guestsAtHome_0 : decode cX5_guestsAtHome 0 = .ok (.iconst 0, 1) := by decide +kernel
theorem dX5_guestsAtHome_1 : decode cX5_guestsAtHome 1 = .ok (.istore_n 1, 1) := by decide +kernel
theorem dX5_guestsAtHome_12 : decode cX5_guestsAtHome 12 = .ok (.if_icmp .ge 29, 3) := by decide +kernel
theorem dX5_guestsAtHome_2 : decode cX5_guestsAtHome 2 = .ok (.iconst 0, 1) := by decide +kernel
theorem dX5_guestsAtHome_3 : decode cX5_guestsAtHome 3 = .ok (.istore_n 2, 1) := by decide +kernel
theorem dX5_guestsAtHome_4 : decode cX5_guestsAtHome 4 = .ok (.iload_n 2, 1) := by decide +kernel
theorem dX5_guestsAtHome_41 : decode cX5_guestsAtHome 41 = .ok (.iload_n 1, 1) := by decide +kernel
theorem dX5_guestsAtHome_42 : decode cX5_guestsAtHome 42 = .ok (.ireturn, 1) := by decide +kernel
theorem dX5_guestsAtHome_5 : decode cX5_guestsAtHome 5 = .ok (.aload_n 0, 1) := by decide +kernel
theorem dX5_guestsAtHome_6 : decode cX5_guestsAtHome 6 = .ok (.getfield 19, 3) := by decide +kernel
theorem dX5_guestsAtHome_9 : decode cX5_guestsAtHome 9 = .ok (.invokevirtual 49, 3) := by decide +kernel
theorem dX5_guestsIn_0 : decode cX5_guestsIn 0 = .ok (.iconst 0, 1) := by decide +kernel
theorem dX5_guestsIn_1 : decode cX5_guestsIn 1 = .ok (.istore_n 2, 1) := by decide +kernel
theorem dX5_guestsIn_12 : decode cX5_guestsIn 12 = .ok (.if_icmp .ge 30, 3) := by decide +kernel
theorem dX5_guestsIn_2 : decode cX5_guestsIn 2 = .ok (.iconst 0, 1) := by decide +kernel
theorem dX5_guestsIn_3 : decode cX5_guestsIn 3 = .ok (.istore_n 3, 1) := by decide +kernel
theorem dX5_guestsIn_4 : decode cX5_guestsIn 4 = .ok (.iload_n 3, 1) := by decide +kernel
theorem dX5_guestsIn_42 : decode cX5_guestsIn 42 = .ok (.iload_n 2, 1) := by decide +kernel
theorem dX5_guestsIn_43 : decode cX5_guestsIn 43 = .ok (.ireturn, 1) := by decide +kernel
theorem dX5_guestsIn_5 : decode cX5_guestsIn 5 = .ok (.aload_n 0, 1) := by decide +kernel
theorem dX5_guestsIn_6 : decode cX5_guestsIn 6 = .ok (.getfield 19, 3) := by decide +kernel
theorem dX5_guestsIn_9 : decode cX5_guestsIn 9 = .ok (.invokevirtual 49, 3) := by decide +kernel
theorem dX5_guestsRiding_0 : decode cX5_guestsRiding 0 = .ok (.aload_n 0, 1) := by decide +kernel
theorem dX5_guestsRiding_1 : decode cX5_guestsRiding 1 = .ok (.getfield 19, 3) := by decide +kernel
theorem dX5_guestsRiding_12 : decode cX5_guestsRiding 12 = .ok (.isub, 1) := by decide +kernel
theorem dX5_guestsRiding_13 : decode cX5_guestsRiding 13 = .ok (.ireturn, 1) := by decide +kernel
theorem dX5_guestsRiding_4 : decode cX5_guestsRiding 4 = .ok (.invokevirtual 49, 3) := by decide +kernel
theorem dX5_guestsRiding_7 : decode cX5_guestsRiding 7 = .ok (.aload_n 0, 1) := by decide +kernel
theorem dX5_guestsRiding_8 : decode cX5_guestsRiding 8 = .ok (.iconst (-1), 1) := by decide +kernel
theorem dX5_guestsRiding_9 : decode cX5_guestsRiding 9 = .ok (.invokevirtual 176, 3) := by decide +kernel
theorem dX5_heardWith_0 : decode cX5_heardWith 0 = .ok (.iload_n 0, 1) := by decide +kernel
theorem dX5_heardWith_1 : decode cX5_heardWith 1 = .ok (.ldc 247, 2) := by decide +kernel
theorem dX5_heardWith_10 : decode cX5_heardWith 10 = .ok (.iadd, 1) := by decide +kernel
theorem dX5_heardWith_11 : decode cX5_heardWith 11 = .ok (.ireturn, 1) := by decide +kernel
theorem dX5_heardWith_3 : decode cX5_heardWith 3 = .ok (.irem, 1) := by decide +kernel
theorem dX5_heardWith_4 : decode cX5_heardWith 4 = .ok (.bipush 10, 2) := by decide +kernel
theorem dX5_heardWith_6 : decode cX5_heardWith 6 = .ok (.imul, 1) := by decide +kernel
theorem dX5_heardWith_7 : decode cX5_heardWith 7 = .ok (.iload_n 1, 1) := by decide +kernel
theorem dX5_heardWith_8 : decode cX5_heardWith 8 = .ok (.iadd, 1) := by decide +kernel
theorem dX5_heardWith_9 : decode cX5_heardWith 9 = .ok (.iconst 1, 1) := by decide +kernel
theorem dX5_home_0 : decode cX5_home 0 = .ok (.aload_n 0, 1) := by decide +kernel
theorem dX5_home_1 : decode cX5_home 1 = .ok (.getfield 19, 3) := by decide +kernel
theorem dX5_home_23 : decode cX5_home 23 = .ok (.dconst 1, 1) := by decide +kernel
theorem dX5_home_24 : decode cX5_home 24 = .ok (.dreturn, 1) := by decide +kernel
theorem dX5_home_4 : decode cX5_home 4 = .ok (.invokevirtual 49, 3) := by decide +kernel
theorem dX5_home_7 : decode cX5_home 7 = .ok (.istore_n 1, 1) := by decide +kernel
theorem dX5_home_8 : decode cX5_home 8 = .ok (.iload_n 1, 1) := by decide +kernel
theorem dX5_home_9 : decode cX5_home 9 = .ok (.ifCond .le 14, 3) := by decide +kernel
theorem dX5_isFloor_0 : decode cX5_isFloor 0 = .ok (.iload_n 1, 1) := by decide +kernel
theorem dX5_isFloor_1 : decode cX5_isFloor 1 = .ok (.ifCond .lt 18, 3) := by decide +kernel
theorem dX5_isFloor_12 : decode cX5_isFloor 12 = .ok (.if_icmp .ge 7, 3) := by decide +kernel
theorem dX5_isFloor_19 : decode cX5_isFloor 19 = .ok (.iconst 0, 1) := by decide +kernel
theorem dX5_isFloor_20 : decode cX5_isFloor 20 = .ok (.ireturn, 1) := by decide +kernel
theorem dX5_isFloor_4 : decode cX5_isFloor 4 = .ok (.iload_n 1, 1) := by decide +kernel
theorem dX5_isFloor_5 : decode cX5_isFloor 5 = .ok (.aload_n 0, 1) := by decide +kernel
theorem dX5_isFloor_6 : decode cX5_isFloor 6 = .ok (.getfield 10, 3) := by decide +kernel
theorem dX5_isFloor_9 : decode cX5_isFloor 9 = .ok (.invokevirtual 49, 3) := by decide +kernel
theorem dX5_isGuest_0 : decode cX5_isGuest 0 = .ok (.iload_n 1, 1) := by decide +kernel
theorem dX5_isGuest_1 : decode cX5_isGuest 1 = .ok (.ifCond .lt 18, 3) := by decide +kernel
theorem dX5_isGuest_12 : decode cX5_isGuest 12 = .ok (.if_icmp .ge 7, 3) := by decide +kernel
theorem dX5_isGuest_19 : decode cX5_isGuest 19 = .ok (.iconst 0, 1) := by decide +kernel
theorem dX5_isGuest_20 : decode cX5_isGuest 20 = .ok (.ireturn, 1) := by decide +kernel
theorem dX5_isGuest_4 : decode cX5_isGuest 4 = .ok (.iload_n 1, 1) := by decide +kernel
theorem dX5_isGuest_5 : decode cX5_isGuest 5 = .ok (.aload_n 0, 1) := by decide +kernel
theorem dX5_isGuest_6 : decode cX5_isGuest 6 = .ok (.getfield 19, 3) := by decide +kernel
theorem dX5_isGuest_9 : decode cX5_isGuest 9 = .ok (.invokevirtual 49, 3) := by decide +kernel
theorem dX5_isLift_0 : decode cX5_isLift 0 = .ok (.iload_n 1, 1) := by decide +kernel
theorem dX5_isLift_1 : decode cX5_isLift 1 = .ok (.ifCond .lt 18, 3) := by decide +kernel
theorem dX5_isLift_12 : decode cX5_isLift 12 = .ok (.if_icmp .ge 7, 3) := by decide +kernel
theorem dX5_isLift_19 : decode cX5_isLift 19 = .ok (.iconst 0, 1) := by decide +kernel
theorem dX5_isLift_20 : decode cX5_isLift 20 = .ok (.ireturn, 1) := by decide +kernel
theorem dX5_isLift_4 : decode cX5_isLift 4 = .ok (.iload_n 1, 1) := by decide +kernel
theorem dX5_isLift_5 : decode cX5_isLift 5 = .ok (.aload_n 0, 1) := by decide +kernel
theorem dX5_isLift_6 : decode cX5_isLift 6 = .ok (.getfield 16, 3) := by decide +kernel
theorem dX5_isLift_9 : decode cX5_isLift 9 = .ok (.invokevirtual 49, 3) := by decide +kernel
theorem dX5_isRoom_0 : decode cX5_isRoom 0 = .ok (.aload_n 0, 1) := by decide +kernel
theorem dX5_isRoom_1 : decode cX5_isRoom 1 = .ok (.iload_n 1, 1) := by decide +kernel
theorem dX5_isRoom_2 : decode cX5_isRoom 2 = .ok (.invokevirtual 67, 3) := by decide +kernel
theorem dX5_isRoom_34 : decode cX5_isRoom 34 = .ok (.iconst 0, 1) := by decide +kernel
theorem dX5_isRoom_35 : decode cX5_isRoom 35 = .ok (.ireturn, 1) := by decide +kernel
theorem dX5_isRoom_5 : decode cX5_isRoom 5 = .ok (.ifCond .eq 29, 3) := by decide +kernel
theorem dX5_isTone_0 : decode cX5_isTone 0 = .ok (.iload_n 0, 1) := by decide +kernel
theorem dX5_isTone_1 : decode cX5_isTone 1 = .ok (.ifCond .lt 12, 3) := by decide +kernel
theorem dX5_isTone_10 : decode cX5_isTone 10 = .ok (.goto 4, 3) := by decide +kernel
theorem dX5_isTone_13 : decode cX5_isTone 13 = .ok (.iconst 0, 1) := by decide +kernel
theorem dX5_isTone_14 : decode cX5_isTone 14 = .ok (.ireturn, 1) := by decide +kernel
theorem dX5_isTone_4 : decode cX5_isTone 4 = .ok (.iload_n 0, 1) := by decide +kernel
theorem dX5_isTone_5 : decode cX5_isTone 5 = .ok (.iconst 4, 1) := by decide +kernel
theorem dX5_isTone_6 : decode cX5_isTone 6 = .ok (.if_icmp .ge 7, 3) := by decide +kernel
theorem dX5_isTone_9 : decode cX5_isTone 9 = .ok (.iconst 1, 1) := by decide +kernel
theorem dX5_lift_0 : decode cX5_lift 0 = .ok (.aload_n 0, 1) := by decide +kernel
theorem dX5_lift_1 : decode cX5_lift 1 = .ok (.iload_n 1, 1) := by decide +kernel
theorem dX5_lift_11 : decode cX5_lift 11 = .ok (.dup, 1) := by decide +kernel
theorem dX5_lift_12 : decode cX5_lift 12 = .ok (.ldc 168, 2) := by decide +kernel
theorem dX5_lift_14 : decode cX5_lift 14 = .ok (.invokespecial 75, 3) := by decide +kernel
theorem dX5_lift_17 : decode cX5_lift 17 = .ok (.athrow, 1) := by decide +kernel
theorem dX5_lift_2 : decode cX5_lift 2 = .ok (.invokevirtual 103, 3) := by decide +kernel
theorem dX5_lift_5 : decode cX5_lift 5 = .ok (.ifCond .ne 13, 3) := by decide +kernel
theorem dX5_lift_8 : decode cX5_lift 8 = .ok (.new 71, 3) := by decide +kernel
theorem dX5_place_0 : decode cX5_place 0 = .ok (.aload_n 0, 1) := by decide +kernel
theorem dX5_place_1 : decode cX5_place 1 = .ok (.iload_n 1, 1) := by decide +kernel
theorem dX5_place_12 : decode cX5_place 12 = .ok (.dup, 1) := by decide +kernel
theorem dX5_place_13 : decode cX5_place 13 = .ok (.ldc 124, 2) := by decide +kernel
theorem dX5_place_15 : decode cX5_place 15 = .ok (.invokespecial 75, 3) := by decide +kernel
theorem dX5_place_18 : decode cX5_place 18 = .ok (.athrow, 1) := by decide +kernel
theorem dX5_place_2 : decode cX5_place 2 = .ok (.iload_n 2, 1) := by decide +kernel
theorem dX5_place_3 : decode cX5_place 3 = .ok (.invokevirtual 120, 3) := by decide +kernel
theorem dX5_place_6 : decode cX5_place 6 = .ok (.ifCond .ne 13, 3) := by decide +kernel
theorem dX5_place_9 : decode cX5_place 9 = .ok (.new 71, 3) := by decide +kernel
theorem dX5_ring_0 : decode cX5_ring 0 = .ok (.iload_n 1, 1) := by decide +kernel
theorem dX5_ring_1 : decode cX5_ring 1 = .ok (.invokestatic 211, 3) := by decide +kernel
theorem dX5_ring_10 : decode cX5_ring 10 = .ok (.dup, 1) := by decide +kernel
theorem dX5_ring_11 : decode cX5_ring 11 = .ok (.ldc 214, 2) := by decide +kernel
theorem dX5_ring_13 : decode cX5_ring 13 = .ok (.invokespecial 46, 3) := by decide +kernel
theorem dX5_ring_16 : decode cX5_ring 16 = .ok (.athrow, 1) := by decide +kernel
theorem dX5_ring_17 : decode cX5_ring 17 = .ok (.aload_n 0, 1) := by decide +kernel
theorem dX5_ring_18 : decode cX5_ring 18 = .ok (.iload_n 1, 1) := by decide +kernel
theorem dX5_ring_19 : decode cX5_ring 19 = .ok (.invokevirtual 216, 3) := by decide +kernel
theorem dX5_ring_22 : decode cX5_ring 22 = .ok (.ireturn, 1) := by decide +kernel
theorem dX5_ring_4 : decode cX5_ring 4 = .ok (.ifCond .ne 13, 3) := by decide +kernel
theorem dX5_ring_7 : decode cX5_ring 7 = .ok (.new 42, 3) := by decide +kernel
theorem dX5_setDoor_0 : decode cX5_setDoor 0 = .ok (.aload_n 0, 1) := by decide +kernel
theorem dX5_setDoor_1 : decode cX5_setDoor 1 = .ok (.iload_n 1, 1) := by decide +kernel
theorem dX5_setDoor_16 : decode cX5_setDoor 16 = .ok (.new 71, 3) := by decide +kernel
theorem dX5_setDoor_19 : decode cX5_setDoor 19 = .ok (.dup, 1) := by decide +kernel
theorem dX5_setDoor_2 : decode cX5_setDoor 2 = .ok (.invokevirtual 103, 3) := by decide +kernel
theorem dX5_setDoor_20 : decode cX5_setDoor 20 = .ok (.ldc 106, 2) := by decide +kernel
theorem dX5_setDoor_22 : decode cX5_setDoor 22 = .ok (.invokespecial 75, 3) := by decide +kernel
theorem dX5_setDoor_25 : decode cX5_setDoor 25 = .ok (.athrow, 1) := by decide +kernel
theorem dX5_setDoor_5 : decode cX5_setDoor 5 = .ok (.ifCond .eq 11, 3) := by decide +kernel
theorem dX5_setTune_0 : decode cX5_setTune 0 = .ok (.aload_n 0, 1) := by decide +kernel
theorem dX5_setTune_1 : decode cX5_setTune 1 = .ok (.iload_n 1, 1) := by decide +kernel
theorem dX5_setTune_11 : decode cX5_setTune 11 = .ok (.dup, 1) := by decide +kernel
theorem dX5_setTune_12 : decode cX5_setTune 12 = .ok (.ldc 73, 2) := by decide +kernel
theorem dX5_setTune_14 : decode cX5_setTune 14 = .ok (.invokespecial 75, 3) := by decide +kernel
theorem dX5_setTune_17 : decode cX5_setTune 17 = .ok (.athrow, 1) := by decide +kernel
theorem dX5_setTune_2 : decode cX5_setTune 2 = .ok (.invokevirtual 67, 3) := by decide +kernel
theorem dX5_setTune_5 : decode cX5_setTune 5 = .ok (.ifCond .ne 13, 3) := by decide +kernel
theorem dX5_setTune_8 : decode cX5_setTune 8 = .ok (.new 71, 3) := by decide +kernel
theorem dX5_strike_0 : decode cX5_strike 0 = .ok (.aload_n 1, 1) := by decide +kernel
theorem dX5_strike_1 : decode cX5_strike 1 = .ok (.aload_n 1, 1) := by decide +kernel
theorem dX5_strike_115 : decode cX5_strike 115 = .ok (.iload_n 3, 1) := by decide +kernel
theorem dX5_strike_116 : decode cX5_strike 116 = .ok (.ireturn, 1) := by decide +kernel
theorem dX5_strike_12 : decode cX5_strike 12 = .ok (.iconst 0, 1) := by decide +kernel
theorem dX5_strike_13 : decode cX5_strike 13 = .ok (.istore_n 3, 1) := by decide +kernel
theorem dX5_strike_14 : decode cX5_strike 14 = .ok (.iconst 0, 1) := by decide +kernel
theorem dX5_strike_15 : decode cX5_strike 15 = .ok (.istore 4, 2) := by decide +kernel
theorem dX5_strike_17 : decode cX5_strike 17 = .ok (.iload 4, 2) := by decide +kernel
theorem dX5_strike_19 : decode cX5_strike 19 = .ok (.aload_n 0, 1) := by decide +kernel
theorem dX5_strike_2 : decode cX5_strike 2 = .ok (.getfield 156, 3) := by decide +kernel
theorem dX5_strike_20 : decode cX5_strike 20 = .ok (.getfield 10, 3) := by decide +kernel
theorem dX5_strike_23 : decode cX5_strike 23 = .ok (.invokevirtual 49, 3) := by decide +kernel
theorem dX5_strike_26 : decode cX5_strike 26 = .ok (.if_icmp .ge 55, 3) := by decide +kernel
theorem dX5_strike_5 : decode cX5_strike 5 = .ok (.iload_n 2, 1) := by decide +kernel
theorem dX5_strike_6 : decode cX5_strike 6 = .ok (.invokestatic 252, 3) := by decide +kernel
theorem dX5_strike_81 : decode cX5_strike 81 = .ok (.iconst 0, 1) := by decide +kernel
theorem dX5_strike_82 : decode cX5_strike 82 = .ok (.istore 4, 2) := by decide +kernel
theorem dX5_strike_84 : decode cX5_strike 84 = .ok (.iload 4, 2) := by decide +kernel
theorem dX5_strike_86 : decode cX5_strike 86 = .ok (.aload_n 0, 1) := by decide +kernel
theorem dX5_strike_87 : decode cX5_strike 87 = .ok (.getfield 16, 3) := by decide +kernel
theorem dX5_strike_9 : decode cX5_strike 9 = .ok (.putfield 156, 3) := by decide +kernel
theorem dX5_strike_90 : decode cX5_strike 90 = .ok (.invokevirtual 49, 3) := by decide +kernel
theorem dX5_strike_93 : decode cX5_strike 93 = .ok (.if_icmp .ge 22, 3) := by decide +kernel
theorem dX5_toll_0 : decode cX5_toll 0 = .ok (.iconst 0, 1) := by decide +kernel
theorem dX5_toll_1 : decode cX5_toll 1 = .ok (.istore_n 2, 1) := by decide +kernel
theorem dX5_toll_10 : decode cX5_toll 10 = .ok (.if_icmp .ge 38, 3) := by decide +kernel
theorem dX5_toll_122 : decode cX5_toll 122 = .ok (.iload_n 2, 1) := by decide +kernel
theorem dX5_toll_123 : decode cX5_toll 123 = .ok (.ireturn, 1) := by decide +kernel
theorem dX5_toll_2 : decode cX5_toll 2 = .ok (.iload_n 2, 1) := by decide +kernel
theorem dX5_toll_3 : decode cX5_toll 3 = .ok (.aload_n 0, 1) := by decide +kernel
theorem dX5_toll_4 : decode cX5_toll 4 = .ok (.getfield 19, 3) := by decide +kernel
theorem dX5_toll_48 : decode cX5_toll 48 = .ok (.aload_n 0, 1) := by decide +kernel
theorem dX5_toll_49 : decode cX5_toll 49 = .ok (.dup, 1) := by decide +kernel
theorem dX5_toll_50 : decode cX5_toll 50 = .ok (.getfield 200, 3) := by decide +kernel
theorem dX5_toll_53 : decode cX5_toll 53 = .ok (.iconst 1, 1) := by decide +kernel
theorem dX5_toll_54 : decode cX5_toll 54 = .ok (.iadd, 1) := by decide +kernel
theorem dX5_toll_55 : decode cX5_toll 55 = .ok (.putfield 200, 3) := by decide +kernel
theorem dX5_toll_58 : decode cX5_toll 58 = .ok (.aload_n 0, 1) := by decide +kernel
theorem dX5_toll_59 : decode cX5_toll 59 = .ok (.dup, 1) := by decide +kernel
theorem dX5_toll_60 : decode cX5_toll 60 = .ok (.getfield 203, 3) := by decide +kernel
theorem dX5_toll_63 : decode cX5_toll 63 = .ok (.aload_n 0, 1) := by decide +kernel
theorem dX5_toll_64 : decode cX5_toll 64 = .ok (.aload_n 0, 1) := by decide +kernel
theorem dX5_toll_65 : decode cX5_toll 65 = .ok (.getfield 25, 3) := by decide +kernel
theorem dX5_toll_68 : decode cX5_toll 68 = .ok (.iload_n 1, 1) := by decide +kernel
theorem dX5_toll_69 : decode cX5_toll 69 = .ok (.invokevirtual 237, 3) := by decide +kernel
theorem dX5_toll_7 : decode cX5_toll 7 = .ok (.invokevirtual 49, 3) := by decide +kernel
theorem dX5_toll_72 : decode cX5_toll 72 = .ok (.iadd, 1) := by decide +kernel
theorem dX5_toll_73 : decode cX5_toll 73 = .ok (.putfield 203, 3) := by decide +kernel
theorem dX5_toll_76 : decode cX5_toll 76 = .ok (.iconst 0, 1) := by decide +kernel
theorem dX5_toll_77 : decode cX5_toll 77 = .ok (.istore_n 2, 1) := by decide +kernel
theorem dX5_toll_78 : decode cX5_toll 78 = .ok (.iconst 0, 1) := by decide +kernel
theorem dX5_toll_79 : decode cX5_toll 79 = .ok (.istore_n 3, 1) := by decide +kernel
theorem dX5_toll_80 : decode cX5_toll 80 = .ok (.iload_n 3, 1) := by decide +kernel
theorem dX5_toll_81 : decode cX5_toll 81 = .ok (.aload_n 0, 1) := by decide +kernel
theorem dX5_toll_82 : decode cX5_toll 82 = .ok (.getfield 19, 3) := by decide +kernel
theorem dX5_toll_85 : decode cX5_toll 85 = .ok (.invokevirtual 49, 3) := by decide +kernel
theorem dX5_toll_88 : decode cX5_toll 88 = .ok (.if_icmp .ge 34, 3) := by decide +kernel
theorem dX5_toneAt_0 : decode cX5_toneAt 0 = .ok (.iload_n 1, 1) := by decide +kernel
theorem dX5_toneAt_1 : decode cX5_toneAt 1 = .ok (.ifCond .le 14, 3) := by decide +kernel
theorem dX5_toneAt_10 : decode cX5_toneAt 10 = .ok (.iconst 1, 1) := by decide +kernel
theorem dX5_toneAt_11 : decode cX5_toneAt 11 = .ok (.isub, 1) := by decide +kernel
theorem dX5_toneAt_12 : decode cX5_toneAt 12 = .ok (.goto 4, 3) := by decide +kernel
theorem dX5_toneAt_16 : decode cX5_toneAt 16 = .ok (.ireturn, 1) := by decide +kernel
theorem dX5_toneAt_4 : decode cX5_toneAt 4 = .ok (.iload_n 0, 1) := by decide +kernel
theorem dX5_toneAt_5 : decode cX5_toneAt 5 = .ok (.iload_n 1, 1) := by decide +kernel
theorem dX5_toneAt_6 : decode cX5_toneAt 6 = .ok (.idiv, 1) := by decide +kernel
theorem dX5_toneAt_7 : decode cX5_toneAt 7 = .ok (.bipush 10, 2) := by decide +kernel
theorem dX5_toneAt_9 : decode cX5_toneAt 9 = .ok (.irem, 1) := by decide +kernel
theorem dX5_want_0 : decode cX5_want 0 = .ok (.aload_n 0, 1) := by decide +kernel
theorem dX5_want_1 : decode cX5_want 1 = .ok (.iload_n 1, 1) := by decide +kernel
theorem dX5_want_17 : decode cX5_want 17 = .ok (.new 71, 3) := by decide +kernel
theorem dX5_want_2 : decode cX5_want 2 = .ok (.invokevirtual 132, 3) := by decide +kernel
theorem dX5_want_20 : decode cX5_want 20 = .ok (.dup, 1) := by decide +kernel
theorem dX5_want_21 : decode cX5_want 21 = .ok (.ldc 135, 2) := by decide +kernel
theorem dX5_want_23 : decode cX5_want 23 = .ok (.invokespecial 75, 3) := by decide +kernel
theorem dX5_want_26 : decode cX5_want 26 = .ok (.athrow, 1) := by decide +kernel
theorem dX5_want_5 : decode cX5_want 5 = .ok (.ifCond .eq 12, 3) := by decide +kernel
theorem dX5_wouldTurn_0 : decode cX5_wouldTurn 0 = .ok (.iload_n 1, 1) := by decide +kernel
theorem dX5_wouldTurn_1 : decode cX5_wouldTurn 1 = .ok (.invokestatic 211, 3) := by decide +kernel
theorem dX5_wouldTurn_10 : decode cX5_wouldTurn 10 = .ok (.dup, 1) := by decide +kernel
theorem dX5_wouldTurn_11 : decode cX5_wouldTurn 11 = .ok (.ldc 214, 2) := by decide +kernel
theorem dX5_wouldTurn_13 : decode cX5_wouldTurn 13 = .ok (.invokespecial 46, 3) := by decide +kernel
theorem dX5_wouldTurn_16 : decode cX5_wouldTurn 16 = .ok (.athrow, 1) := by decide +kernel
theorem dX5_wouldTurn_17 : decode cX5_wouldTurn 17 = .ok (.aload_n 0, 1) := by decide +kernel
theorem dX5_wouldTurn_18 : decode cX5_wouldTurn 18 = .ok (.getfield 25, 3) := by decide +kernel
theorem dX5_wouldTurn_21 : decode cX5_wouldTurn 21 = .ok (.getfield 156, 3) := by decide +kernel
theorem dX5_wouldTurn_24 : decode cX5_wouldTurn 24 = .ok (.iload_n 1, 1) := by decide +kernel
theorem dX5_wouldTurn_25 : decode cX5_wouldTurn 25 = .ok (.invokestatic 252, 3) := by decide +kernel
theorem dX5_wouldTurn_28 : decode cX5_wouldTurn 28 = .ok (.istore_n 2, 1) := by decide +kernel
theorem dX5_wouldTurn_29 : decode cX5_wouldTurn 29 = .ok (.iconst 0, 1) := by decide +kernel
theorem dX5_wouldTurn_30 : decode cX5_wouldTurn 30 = .ok (.istore_n 3, 1) := by decide +kernel
theorem dX5_wouldTurn_31 : decode cX5_wouldTurn 31 = .ok (.iconst 0, 1) := by decide +kernel
theorem dX5_wouldTurn_32 : decode cX5_wouldTurn 32 = .ok (.istore 4, 2) := by decide +kernel
theorem dX5_wouldTurn_34 : decode cX5_wouldTurn 34 = .ok (.iload 4, 2) := by decide +kernel
theorem dX5_wouldTurn_36 : decode cX5_wouldTurn 36 = .ok (.aload_n 0, 1) := by decide +kernel
theorem dX5_wouldTurn_37 : decode cX5_wouldTurn 37 = .ok (.getfield 10, 3) := by decide +kernel
theorem dX5_wouldTurn_4 : decode cX5_wouldTurn 4 = .ok (.ifCond .ne 13, 3) := by decide +kernel
theorem dX5_wouldTurn_40 : decode cX5_wouldTurn 40 = .ok (.invokevirtual 49, 3) := by decide +kernel
theorem dX5_wouldTurn_43 : decode cX5_wouldTurn 43 = .ok (.if_icmp .ge 31, 3) := by decide +kernel
theorem dX5_wouldTurn_7 : decode cX5_wouldTurn 7 = .ok (.new 42, 3) := by decide +kernel
theorem dX5_wouldTurn_74 : decode cX5_wouldTurn 74 = .ok (.iload_n 3, 1) := by decide +kernel
theorem dX5_wouldTurn_75 : decode cX5_wouldTurn 75 = .ok (.ireturn, 1) := by decide +kernel
theorem dX5_write_0 : decode cX5_write 0 = .ok (.aload_n 0, 1) := by decide +kernel
theorem dX5_write_1 : decode cX5_write 1 = .ok (.iconst 0, 1) := by decide +kernel
theorem dX5_write_12 : decode cX5_write 12 = .ok (.invokevirtual 49, 3) := by decide +kernel
theorem dX5_write_15 : decode cX5_write 15 = .ok (.if_icmp .ge 14, 3) := by decide +kernel
theorem dX5_write_2 : decode cX5_write 2 = .ok (.putfield 206, 3) := by decide +kernel
theorem dX5_write_29 : decode cX5_write 29 = .ok (.iconst 0, 1) := by decide +kernel
theorem dX5_write_30 : decode cX5_write 30 = .ok (.istore_n 1, 1) := by decide +kernel
theorem dX5_write_31 : decode cX5_write 31 = .ok (.iload_n 1, 1) := by decide +kernel
theorem dX5_write_32 : decode cX5_write 32 = .ok (.aload_n 0, 1) := by decide +kernel
theorem dX5_write_33 : decode cX5_write 33 = .ok (.getfield 16, 3) := by decide +kernel
theorem dX5_write_36 : decode cX5_write 36 = .ok (.invokevirtual 49, 3) := by decide +kernel
theorem dX5_write_39 : decode cX5_write 39 = .ok (.if_icmp .ge 14, 3) := by decide +kernel
theorem dX5_write_5 : decode cX5_write 5 = .ok (.iconst 0, 1) := by decide +kernel
theorem dX5_write_53 : decode cX5_write 53 = .ok (.iconst 0, 1) := by decide +kernel
theorem dX5_write_54 : decode cX5_write 54 = .ok (.istore_n 1, 1) := by decide +kernel
theorem dX5_write_55 : decode cX5_write 55 = .ok (.iload_n 1, 1) := by decide +kernel
theorem dX5_write_56 : decode cX5_write 56 = .ok (.aload_n 0, 1) := by decide +kernel
theorem dX5_write_57 : decode cX5_write 57 = .ok (.getfield 19, 3) := by decide +kernel
theorem dX5_write_6 : decode cX5_write 6 = .ok (.istore_n 1, 1) := by decide +kernel
theorem dX5_write_60 : decode cX5_write 60 = .ok (.invokevirtual 49, 3) := by decide +kernel
theorem dX5_write_63 : decode cX5_write 63 = .ok (.if_icmp .ge 14, 3) := by decide +kernel
theorem dX5_write_7 : decode cX5_write 7 = .ok (.iload_n 1, 1) := by decide +kernel
theorem dX5_write_77 : decode cX5_write 77 = .ok (.aload_n 0, 1) := by decide +kernel
theorem dX5_write_78 : decode cX5_write 78 = .ok (.getfield 206, 3) := by decide +kernel
theorem dX5_write_8 : decode cX5_write 8 = .ok (.aload_n 0, 1) := by decide +kernel
theorem dX5_write_81 : decode cX5_write 81 = .ok (.ireturn, 1) := by decide +kernel
theorem dX5_write_9 : decode cX5_write 9 = .ok (.getfield 10, 3) := by decide +kernel
def v_c_isFloor : List Cond := .code yX5_isFloor cX5_isFloor 2 (some .boolean) :: ([Cond.fieldLink RX5 10 "HotelOfBells" "floors" "Ljava/util/ArrayList;", Cond.code yJx4a65c_size_8abf5 cJx4a65c_size_8abf5 1 (some .int), Cond.fieldLink RJx4a65c 48 "java/util/ArrayList" "size" "I", Cond.methodLink RX5 49 yJx4a65c_size_8abf5, Cond.instanceMethod yJx4a65c_size_8abf5, Cond.selects RJx4a65c yJx4a65c_size_8abf5 yJx4a65c_size_8abf5, Cond.initialized RJx4a65c] ++ (wsX50 ++ (wsJx4a65c0 ++ [])))
theorem u_c_isFloor_X5 : ∀ w ∈ wsX50, w ∈ v_c_isFloor := fun _ h => List.mem_cons_of_mem _ (List.mem_append_right _ (List.mem_append_left _ h))
theorem u_c_isFloor_Jx4a65c : ∀ w ∈ wsJx4a65c0, w ∈ v_c_isFloor := fun _ h => List.mem_cons_of_mem _ (List.mem_append_right _ (List.mem_append_right _ (List.mem_append_left _ h)))
theorem gg_c_isFloor_c_AL_size : GoodIn v_c_isFloor v_c_AL_size := goodIn_r _ [2, 3, 17, 18, 19] (by rfl) (by decide +kernel)
set_option maxHeartbeats 4000000 in
set_option maxRecDepth 100000 in
theorem c_isFloor (l : Launch) (hl9 : l.stackTraces = false) (dC : Nat → ClassId) (dI : Nat → Nat → Nat) (tE : Nat) (h0 : Nat) (fq : Nat) (sq : Nat) (gq : Nat) (nq : Nat) (dq : Nat) (pq : Nat) (pl : Int32) (bl : Int32) (tb : Int32) (mc_fq : Int32) (p0 : Int32) (sz : Nat) : Met l yX5_isFloor v_c_isFloor ({ frames := 1, cells := 0, slots := 0, locals := 20 }) (va_Pc [.ref h0, .int p0] (Pre0 dC dI tE sz [] [(h0, .inr (10, [.ref fq, .ref sq, .ref gq, .ref nq, .ref dq, .ref pq, .int pl, .int bl, .int tb])), (fq, .inr (4, [.int mc_fq, .ref tE, .int 0]))])) (va_Qi (fun (r : Int32) (_ : Unit) => r = 0) (fun _ t => Pst dC dI [] (va_A [(h0, .inr (10, [.ref fq, .ref sq, .ref gq, .ref nq, .ref dq, .ref pq, .int pl, .int bl, .int tb])), (fq, .inr (4, [.int mc_fq, .ref tE, .int 0]))] sz) [(h0, .inr (10, [.ref fq, .ref sq, .ref gq, .ref nq, .ref dq, .ref pq, .int pl, .int bl, .int tb])), (fq, .inr (4, [.int mc_fq, .ref tE, .int 0]))] t) (va_A [(h0, .inr (10, [.ref fq, .ref sq, .ref gq, .ref nq, .ref dq, .ref pq, .int pl, .int bl, .int tb])), (fq, .inr (4, [.int mc_fq, .ref tE, .int 0]))] sz)) 0 0 (va_A [(h0, .inr (10, [.ref fq, .ref sq, .ref gq, .ref nq, .ref dq, .ref pq, .int pl, .int bl, .int tb])), (fq, .inr (4, [.int mc_fq, .ref tE, .int 0]))] sz) := by
  refine Met.ofW (cc := cX5_isFloor) (maxL := 2) (ret := (some .boolean)) (by decide) rfl ?_
  intro p e s m args below meth c s₁ B hml hv
  obtain ⟨rfl, hsz, hP, hK, hD0, hT⟩ := hv
  have hx := B.exec
  have hb := B.bytes
  have hr := B.returns
  have hts := atoms_spec (ws := v_c_isFloor) B.pre
  have hown : s.vm.findClass RX5 = some m.cls := findClass_of_methodNamed B.named
  have hlocks := B.notSynchronized
  subst hsz
  have hD := hD0.self (sz := s.heap.size)
  generalize hAe : va_A [(h0, .inr (10, [.ref fq, .ref sq, .ref gq, .ref nq, .ref dq, .ref pq, .int pl, .int bl, .int tb])), (fq, .inr (4, [.int mc_fq, .ref tE, .int 0]))] s.heap.size = A at hD hT ⊢
  have hA : ∀ q : Nat, s.heap.size ≤ q → A q := fun q h => by rw [← hAe]; exact Or.inr h
  have hS : va_S A s.heap s.heap [] := va_S.rf
  have hl := lv_entry ([.ref h0, .int p0]) (n := 2) (Nat.le_of_ble_eq_true rfl)
  rw [lg_entry_eq]
  generalize (lg_sl ([.ref h0, .int p0]) ++ List.replicate (2 - (lg_sl ([.ref h0, .int p0])).length) Slot.unset).toArray = ls at hl ⊢
  have hl : lv_has ls 2 [(0, .ref h0), (1, .int p0)] := hl
  refine lv_iload_n hx hb dX5_isFloor_0 rfl (lv_at hl 1 rfl) ?_
  refine lv_if_lt (tgt := 19) hx hb dX5_isFloor_1 (by decide) (fun c_1 => ?_) (fun c_1 => ?_)
  · refine lv_iconst (v := 0) hx hb dX5_isFloor_19 (by decide) ?_
    have hP9 := hP.sub (ws' := [(h0, .inr (10, [.ref fq, .ref sq, .ref gq, .ref nq, .ref dq, .ref pq, .int pl, .int bl, .int tb])), (fq, .inr (4, [.int mc_fq, .ref tE, .int 0]))]) [0, 1] rfl
    have hD9 := hD.sub (ws' := [(h0, .inr (10, [.ref fq, .ref sq, .ref gq, .ref nq, .ref dq, .ref pq, .int pl, .int bl, .int tb])), (fq, .inr (4, [.int mc_fq, .ref tE, .int 0]))]) [0, 1] (by decide) rfl
    have hK9 := hK.sub (tys' := []) [] rfl
    exact W.zret (v := 0) hx hb hr (by decide) (fun t ht hW => ⟨⟨0, (), rfl, rfl, by rw [ht]; exact hP9, va_K.moved hW.alike hK9, hD9⟩, hS.F ht⟩) hS.2.2 dX5_isFloor_20
  · refine lv_iload_n hx hb dX5_isFloor_4 rfl (lv_at hl 1 rfl) ?_
    refine lv_aload_n hx hb dX5_isFloor_5 rfl (lv_at hl 0 rfl) ?_
    refine va_get (D := (dC, dI)) (ci := 10) (v := .ref fq) (C := RX5) (T := TX5) (N := 9) hx hb hts u_c_isFloor_X5 hown hK hP 0 rfl rfl 0 (by decide) (hts (.fieldLink RX5 10 "HotelOfBells" "floors" "Ljava/util/ArrayList;") (List.mem_of_getElem? (i := 1) rfl)) (fun _ h9 => h9) rfl dX5_isFloor_6 ?_
    have hPc := hP.sub (ws' := [(fq, .inr (4, [.int mc_fq, .ref tE, .int 0]))]) [1] rfl
    have hDc := hD.sub (ws' := [(fq, .inr (4, [.int mc_fq, .ref tE, .int 0]))]) [1] (by decide) rfl
    have hKc := hK.sub (tys' := []) [] rfl
    have hFc := va_free (wc := [(fq, .inr (4, [.int mc_fq, .ref tE, .int 0]))]) hD hS hA [1] rfl
    refine va_calli (va_runV (As := []) (rest := [.int p0]) ⟨hx, hb, hml, hown, hts⟩ (c_AL_size l hl9 dC dI tE fq mc_fq 0 (.ref tE) _ ) (cwV 0 hts (goodIn_app (goodIn_r _ [4, 5, 6, 7] (by rfl) (by decide +kernel)) gg_c_isFloor_c_AL_size) rfl rfl rfl (by decide +kernel) ⟨Nat.le_of_ble_eq_true rfl, Nat.le_of_ble_eq_true rfl⟩) ⟨Pre0.blind, va_recv hKc hPc (ci := 4) (q0 := 0) rfl rfl, Pre0.give hPc hKc hDc hT hS hFc⟩ rfl rfl hl.1 rfl (lv_room (Nat.le_of_ble_eq_true rfl)) dX5_isFloor_9 ⟨Nat.le_of_ble_eq_true rfl, Nat.le_of_ble_eq_true rfl⟩) hS (fun q _ h => hFc q h) hFc (fun r_2 u t H1 locs ht hvm hw hB hz1 hk1 hS => ?_)
    obtain ⟨hP1, hK1, hD1⟩ := hB
    rw [ht] at hP1
    have hK1 := va_K.moved hvm.symm hK1
    obtain ⟨hP, hD⟩ := va_join (wr := [(h0, .inr (10, [.ref fq, .ref sq, .ref gq, .ref nq, .ref dq, .ref pq, .int pl, .int bl, .int tb]))]) (w1 := [(fq, .inr (4, [.int mc_fq, .ref tE, .int 0]))]) hP hD [1] [0] rfl rfl (by decide) (by decide) hk1 hFc hP1 hD1
    generalize H1 = H at hP hS ⊢
    have hP : va_P (dC, dI) vwCl [(h0, .inr (10, [.ref fq, .ref sq, .ref gq, .ref nq, .ref dq, .ref pq, .int pl, .int bl, .int tb])), (fq, .inr (4, [.int mc_fq, .ref tE, .int 0]))] H := hP
    have hD : va_D A [(h0, .inr (10, [.ref fq, .ref sq, .ref gq, .ref nq, .ref dq, .ref pq, .int pl, .int bl, .int tb])), (fq, .inr (4, [.int mc_fq, .ref tE, .int 0]))] := hD
    refine W.widen (k := 0) (n := 0) (by omega) (by omega) ?_
    obtain rfl : r_2 = 0 := hw
    refine lv_icmp_ge (tgt := 19) hx hb dX5_isFloor_12 (by decide) (fun _ => ?_) (fun c_3 => absurd (Int32.not_lt.mp (by assumption)) c_3)
    refine lv_iconst (v := 0) hx hb dX5_isFloor_19 (by decide) ?_
    have hP9 := hP.sub (ws' := [(h0, .inr (10, [.ref fq, .ref sq, .ref gq, .ref nq, .ref dq, .ref pq, .int pl, .int bl, .int tb])), (fq, .inr (4, [.int mc_fq, .ref tE, .int 0]))]) [0, 1] rfl
    have hD9 := hD.sub (ws' := [(h0, .inr (10, [.ref fq, .ref sq, .ref gq, .ref nq, .ref dq, .ref pq, .int pl, .int bl, .int tb])), (fq, .inr (4, [.int mc_fq, .ref tE, .int 0]))]) [0, 1] (by decide) rfl
    have hK9 := hK.sub (tys' := []) [] rfl
    exact W.zret (v := 0) hx hb hr (by decide) (fun t ht hW => ⟨⟨0, (), rfl, rfl, by rw [ht]; exact hP9, va_K.moved hW.alike hK9, hD9⟩, hS.F ht⟩) hS.2.2 dX5_isFloor_20
def v_c_isLift : List Cond := .code yX5_isLift cX5_isLift 2 (some .boolean) :: ([Cond.fieldLink RX5 16 "HotelOfBells" "shafts" "Ljava/util/ArrayList;", Cond.code yJx4a65c_size_8abf5 cJx4a65c_size_8abf5 1 (some .int), Cond.fieldLink RJx4a65c 48 "java/util/ArrayList" "size" "I", Cond.methodLink RX5 49 yJx4a65c_size_8abf5, Cond.instanceMethod yJx4a65c_size_8abf5, Cond.selects RJx4a65c yJx4a65c_size_8abf5 yJx4a65c_size_8abf5, Cond.initialized RJx4a65c] ++ (wsX50 ++ (wsJx4a65c0 ++ [])))
theorem u_c_isLift_X5 : ∀ w ∈ wsX50, w ∈ v_c_isLift := fun _ h => List.mem_cons_of_mem _ (List.mem_append_right _ (List.mem_append_left _ h))
theorem u_c_isLift_Jx4a65c : ∀ w ∈ wsJx4a65c0, w ∈ v_c_isLift := fun _ h => List.mem_cons_of_mem _ (List.mem_append_right _ (List.mem_append_right _ (List.mem_append_left _ h)))
theorem gg_c_isLift_c_AL_size : GoodIn v_c_isLift v_c_AL_size := goodIn_r _ [2, 3, 17, 18, 19] (by rfl) (by decide +kernel)
set_option maxHeartbeats 4000000 in
set_option maxRecDepth 100000 in
theorem c_isLift (l : Launch) (hl9 : l.stackTraces = false) (dC : Nat → ClassId) (dI : Nat → Nat → Nat) (tE : Nat) (h0 : Nat) (fq : Nat) (sq : Nat) (gq : Nat) (nq : Nat) (dq : Nat) (pq : Nat) (pl : Int32) (bl : Int32) (tb : Int32) (mc_sq : Int32) (p0 : Int32) (sz : Nat) : Met l yX5_isLift v_c_isLift ({ frames := 1, cells := 0, slots := 0, locals := 20 }) (va_Pc [.ref h0, .int p0] (Pre0 dC dI tE sz [] [(h0, .inr (10, [.ref fq, .ref sq, .ref gq, .ref nq, .ref dq, .ref pq, .int pl, .int bl, .int tb])), (sq, .inr (4, [.int mc_sq, .ref tE, .int 0]))])) (va_Qi (fun (r : Int32) (_ : Unit) => r = 0) (fun _ t => Pst dC dI [] (va_A [(h0, .inr (10, [.ref fq, .ref sq, .ref gq, .ref nq, .ref dq, .ref pq, .int pl, .int bl, .int tb])), (sq, .inr (4, [.int mc_sq, .ref tE, .int 0]))] sz) [(h0, .inr (10, [.ref fq, .ref sq, .ref gq, .ref nq, .ref dq, .ref pq, .int pl, .int bl, .int tb])), (sq, .inr (4, [.int mc_sq, .ref tE, .int 0]))] t) (va_A [(h0, .inr (10, [.ref fq, .ref sq, .ref gq, .ref nq, .ref dq, .ref pq, .int pl, .int bl, .int tb])), (sq, .inr (4, [.int mc_sq, .ref tE, .int 0]))] sz)) 0 0 (va_A [(h0, .inr (10, [.ref fq, .ref sq, .ref gq, .ref nq, .ref dq, .ref pq, .int pl, .int bl, .int tb])), (sq, .inr (4, [.int mc_sq, .ref tE, .int 0]))] sz) := by
  refine Met.ofW (cc := cX5_isLift) (maxL := 2) (ret := (some .boolean)) (by decide) rfl ?_
  intro p e s m args below meth c s₁ B hml hv
  obtain ⟨rfl, hsz, hP, hK, hD0, hT⟩ := hv
  have hx := B.exec
  have hb := B.bytes
  have hr := B.returns
  have hts := atoms_spec (ws := v_c_isLift) B.pre
  have hown : s.vm.findClass RX5 = some m.cls := findClass_of_methodNamed B.named
  have hlocks := B.notSynchronized
  subst hsz
  have hD := hD0.self (sz := s.heap.size)
  generalize hAe : va_A [(h0, .inr (10, [.ref fq, .ref sq, .ref gq, .ref nq, .ref dq, .ref pq, .int pl, .int bl, .int tb])), (sq, .inr (4, [.int mc_sq, .ref tE, .int 0]))] s.heap.size = A at hD hT ⊢
  have hA : ∀ q : Nat, s.heap.size ≤ q → A q := fun q h => by rw [← hAe]; exact Or.inr h
  have hS : va_S A s.heap s.heap [] := va_S.rf
  have hl := lv_entry ([.ref h0, .int p0]) (n := 2) (Nat.le_of_ble_eq_true rfl)
  rw [lg_entry_eq]
  generalize (lg_sl ([.ref h0, .int p0]) ++ List.replicate (2 - (lg_sl ([.ref h0, .int p0])).length) Slot.unset).toArray = ls at hl ⊢
  have hl : lv_has ls 2 [(0, .ref h0), (1, .int p0)] := hl
  refine lv_iload_n hx hb dX5_isLift_0 rfl (lv_at hl 1 rfl) ?_
  refine lv_if_lt (tgt := 19) hx hb dX5_isLift_1 (by decide) (fun c_1 => ?_) (fun c_1 => ?_)
  · refine lv_iconst (v := 0) hx hb dX5_isLift_19 (by decide) ?_
    have hP9 := hP.sub (ws' := [(h0, .inr (10, [.ref fq, .ref sq, .ref gq, .ref nq, .ref dq, .ref pq, .int pl, .int bl, .int tb])), (sq, .inr (4, [.int mc_sq, .ref tE, .int 0]))]) [0, 1] rfl
    have hD9 := hD.sub (ws' := [(h0, .inr (10, [.ref fq, .ref sq, .ref gq, .ref nq, .ref dq, .ref pq, .int pl, .int bl, .int tb])), (sq, .inr (4, [.int mc_sq, .ref tE, .int 0]))]) [0, 1] (by decide) rfl
    have hK9 := hK.sub (tys' := []) [] rfl
    exact W.zret (v := 0) hx hb hr (by decide) (fun t ht hW => ⟨⟨0, (), rfl, rfl, by rw [ht]; exact hP9, va_K.moved hW.alike hK9, hD9⟩, hS.F ht⟩) hS.2.2 dX5_isLift_20
  · refine lv_iload_n hx hb dX5_isLift_4 rfl (lv_at hl 1 rfl) ?_
    refine lv_aload_n hx hb dX5_isLift_5 rfl (lv_at hl 0 rfl) ?_
    refine va_get (D := (dC, dI)) (ci := 10) (v := .ref sq) (C := RX5) (T := TX5) (N := 9) hx hb hts u_c_isLift_X5 hown hK hP 0 rfl rfl 1 (by decide) (hts (.fieldLink RX5 16 "HotelOfBells" "shafts" "Ljava/util/ArrayList;") (List.mem_of_getElem? (i := 1) rfl)) (fun _ h9 => h9) rfl dX5_isLift_6 ?_
    have hPc := hP.sub (ws' := [(sq, .inr (4, [.int mc_sq, .ref tE, .int 0]))]) [1] rfl
    have hDc := hD.sub (ws' := [(sq, .inr (4, [.int mc_sq, .ref tE, .int 0]))]) [1] (by decide) rfl
    have hKc := hK.sub (tys' := []) [] rfl
    have hFc := va_free (wc := [(sq, .inr (4, [.int mc_sq, .ref tE, .int 0]))]) hD hS hA [1] rfl
    refine va_calli (va_runV (As := []) (rest := [.int p0]) ⟨hx, hb, hml, hown, hts⟩ (c_AL_size l hl9 dC dI tE sq mc_sq 0 (.ref tE) _ ) (cwV 0 hts (goodIn_app (goodIn_r _ [4, 5, 6, 7] (by rfl) (by decide +kernel)) gg_c_isLift_c_AL_size) rfl rfl rfl (by decide +kernel) ⟨Nat.le_of_ble_eq_true rfl, Nat.le_of_ble_eq_true rfl⟩) ⟨Pre0.blind, va_recv hKc hPc (ci := 4) (q0 := 0) rfl rfl, Pre0.give hPc hKc hDc hT hS hFc⟩ rfl rfl hl.1 rfl (lv_room (Nat.le_of_ble_eq_true rfl)) dX5_isLift_9 ⟨Nat.le_of_ble_eq_true rfl, Nat.le_of_ble_eq_true rfl⟩) hS (fun q _ h => hFc q h) hFc (fun r_2 u t H1 locs ht hvm hw hB hz1 hk1 hS => ?_)
    obtain ⟨hP1, hK1, hD1⟩ := hB
    rw [ht] at hP1
    have hK1 := va_K.moved hvm.symm hK1
    obtain ⟨hP, hD⟩ := va_join (wr := [(h0, .inr (10, [.ref fq, .ref sq, .ref gq, .ref nq, .ref dq, .ref pq, .int pl, .int bl, .int tb]))]) (w1 := [(sq, .inr (4, [.int mc_sq, .ref tE, .int 0]))]) hP hD [1] [0] rfl rfl (by decide) (by decide) hk1 hFc hP1 hD1
    generalize H1 = H at hP hS ⊢
    have hP : va_P (dC, dI) vwCl [(h0, .inr (10, [.ref fq, .ref sq, .ref gq, .ref nq, .ref dq, .ref pq, .int pl, .int bl, .int tb])), (sq, .inr (4, [.int mc_sq, .ref tE, .int 0]))] H := hP
    have hD : va_D A [(h0, .inr (10, [.ref fq, .ref sq, .ref gq, .ref nq, .ref dq, .ref pq, .int pl, .int bl, .int tb])), (sq, .inr (4, [.int mc_sq, .ref tE, .int 0]))] := hD
    refine W.widen (k := 0) (n := 0) (by omega) (by omega) ?_
    obtain rfl : r_2 = 0 := hw
    refine lv_icmp_ge (tgt := 19) hx hb dX5_isLift_12 (by decide) (fun _ => ?_) (fun c_3 => absurd (Int32.not_lt.mp (by assumption)) c_3)
    refine lv_iconst (v := 0) hx hb dX5_isLift_19 (by decide) ?_
    have hP9 := hP.sub (ws' := [(h0, .inr (10, [.ref fq, .ref sq, .ref gq, .ref nq, .ref dq, .ref pq, .int pl, .int bl, .int tb])), (sq, .inr (4, [.int mc_sq, .ref tE, .int 0]))]) [0, 1] rfl
    have hD9 := hD.sub (ws' := [(h0, .inr (10, [.ref fq, .ref sq, .ref gq, .ref nq, .ref dq, .ref pq, .int pl, .int bl, .int tb])), (sq, .inr (4, [.int mc_sq, .ref tE, .int 0]))]) [0, 1] (by decide) rfl
    have hK9 := hK.sub (tys' := []) [] rfl
    exact W.zret (v := 0) hx hb hr (by decide) (fun t ht hW => ⟨⟨0, (), rfl, rfl, by rw [ht]; exact hP9, va_K.moved hW.alike hK9, hD9⟩, hS.F ht⟩) hS.2.2 dX5_isLift_20
def v_c_isGuest : List Cond := .code yX5_isGuest cX5_isGuest 2 (some .boolean) :: ([Cond.fieldLink RX5 19 "HotelOfBells" "guests" "Ljava/util/ArrayList;", Cond.code yJx4a65c_size_8abf5 cJx4a65c_size_8abf5 1 (some .int), Cond.fieldLink RJx4a65c 48 "java/util/ArrayList" "size" "I", Cond.methodLink RX5 49 yJx4a65c_size_8abf5, Cond.instanceMethod yJx4a65c_size_8abf5, Cond.selects RJx4a65c yJx4a65c_size_8abf5 yJx4a65c_size_8abf5, Cond.initialized RJx4a65c] ++ (wsX50 ++ (wsJx4a65c0 ++ [])))
theorem u_c_isGuest_X5 : ∀ w ∈ wsX50, w ∈ v_c_isGuest := fun _ h => List.mem_cons_of_mem _ (List.mem_append_right _ (List.mem_append_left _ h))
theorem u_c_isGuest_Jx4a65c : ∀ w ∈ wsJx4a65c0, w ∈ v_c_isGuest := fun _ h => List.mem_cons_of_mem _ (List.mem_append_right _ (List.mem_append_right _ (List.mem_append_left _ h)))
theorem gg_c_isGuest_c_AL_size : GoodIn v_c_isGuest v_c_AL_size := goodIn_r _ [2, 3, 17, 18, 19] (by rfl) (by decide +kernel)
set_option maxHeartbeats 4000000 in
set_option maxRecDepth 100000 in
theorem c_isGuest (l : Launch) (hl9 : l.stackTraces = false) (dC : Nat → ClassId) (dI : Nat → Nat → Nat) (tE : Nat) (h0 : Nat) (fq : Nat) (sq : Nat) (gq : Nat) (nq : Nat) (dq : Nat) (pq : Nat) (pl : Int32) (bl : Int32) (tb : Int32) (mc_gq : Int32) (p0 : Int32) (sz : Nat) : Met l yX5_isGuest v_c_isGuest ({ frames := 1, cells := 0, slots := 0, locals := 20 }) (va_Pc [.ref h0, .int p0] (Pre0 dC dI tE sz [] [(h0, .inr (10, [.ref fq, .ref sq, .ref gq, .ref nq, .ref dq, .ref pq, .int pl, .int bl, .int tb])), (gq, .inr (4, [.int mc_gq, .ref tE, .int 0]))])) (va_Qi (fun (r : Int32) (_ : Unit) => r = 0) (fun _ t => Pst dC dI [] (va_A [(h0, .inr (10, [.ref fq, .ref sq, .ref gq, .ref nq, .ref dq, .ref pq, .int pl, .int bl, .int tb])), (gq, .inr (4, [.int mc_gq, .ref tE, .int 0]))] sz) [(h0, .inr (10, [.ref fq, .ref sq, .ref gq, .ref nq, .ref dq, .ref pq, .int pl, .int bl, .int tb])), (gq, .inr (4, [.int mc_gq, .ref tE, .int 0]))] t) (va_A [(h0, .inr (10, [.ref fq, .ref sq, .ref gq, .ref nq, .ref dq, .ref pq, .int pl, .int bl, .int tb])), (gq, .inr (4, [.int mc_gq, .ref tE, .int 0]))] sz)) 0 0 (va_A [(h0, .inr (10, [.ref fq, .ref sq, .ref gq, .ref nq, .ref dq, .ref pq, .int pl, .int bl, .int tb])), (gq, .inr (4, [.int mc_gq, .ref tE, .int 0]))] sz) := by
  refine Met.ofW (cc := cX5_isGuest) (maxL := 2) (ret := (some .boolean)) (by decide) rfl ?_
  intro p e s m args below meth c s₁ B hml hv
  obtain ⟨rfl, hsz, hP, hK, hD0, hT⟩ := hv
  have hx := B.exec
  have hb := B.bytes
  have hr := B.returns
  have hts := atoms_spec (ws := v_c_isGuest) B.pre
  have hown : s.vm.findClass RX5 = some m.cls := findClass_of_methodNamed B.named
  have hlocks := B.notSynchronized
  subst hsz
  have hD := hD0.self (sz := s.heap.size)
  generalize hAe : va_A [(h0, .inr (10, [.ref fq, .ref sq, .ref gq, .ref nq, .ref dq, .ref pq, .int pl, .int bl, .int tb])), (gq, .inr (4, [.int mc_gq, .ref tE, .int 0]))] s.heap.size = A at hD hT ⊢
  have hA : ∀ q : Nat, s.heap.size ≤ q → A q := fun q h => by rw [← hAe]; exact Or.inr h
  have hS : va_S A s.heap s.heap [] := va_S.rf
  have hl := lv_entry ([.ref h0, .int p0]) (n := 2) (Nat.le_of_ble_eq_true rfl)
  rw [lg_entry_eq]
  generalize (lg_sl ([.ref h0, .int p0]) ++ List.replicate (2 - (lg_sl ([.ref h0, .int p0])).length) Slot.unset).toArray = ls at hl ⊢
  have hl : lv_has ls 2 [(0, .ref h0), (1, .int p0)] := hl
  refine lv_iload_n hx hb dX5_isGuest_0 rfl (lv_at hl 1 rfl) ?_
  refine lv_if_lt (tgt := 19) hx hb dX5_isGuest_1 (by decide) (fun c_1 => ?_) (fun c_1 => ?_)
  · refine lv_iconst (v := 0) hx hb dX5_isGuest_19 (by decide) ?_
    have hP9 := hP.sub (ws' := [(h0, .inr (10, [.ref fq, .ref sq, .ref gq, .ref nq, .ref dq, .ref pq, .int pl, .int bl, .int tb])), (gq, .inr (4, [.int mc_gq, .ref tE, .int 0]))]) [0, 1] rfl
    have hD9 := hD.sub (ws' := [(h0, .inr (10, [.ref fq, .ref sq, .ref gq, .ref nq, .ref dq, .ref pq, .int pl, .int bl, .int tb])), (gq, .inr (4, [.int mc_gq, .ref tE, .int 0]))]) [0, 1] (by decide) rfl
    have hK9 := hK.sub (tys' := []) [] rfl
    exact W.zret (v := 0) hx hb hr (by decide) (fun t ht hW => ⟨⟨0, (), rfl, rfl, by rw [ht]; exact hP9, va_K.moved hW.alike hK9, hD9⟩, hS.F ht⟩) hS.2.2 dX5_isGuest_20
  · refine lv_iload_n hx hb dX5_isGuest_4 rfl (lv_at hl 1 rfl) ?_
    refine lv_aload_n hx hb dX5_isGuest_5 rfl (lv_at hl 0 rfl) ?_
    refine va_get (D := (dC, dI)) (ci := 10) (v := .ref gq) (C := RX5) (T := TX5) (N := 9) hx hb hts u_c_isGuest_X5 hown hK hP 0 rfl rfl 2 (by decide) (hts (.fieldLink RX5 19 "HotelOfBells" "guests" "Ljava/util/ArrayList;") (List.mem_of_getElem? (i := 1) rfl)) (fun _ h9 => h9) rfl dX5_isGuest_6 ?_
    have hPc := hP.sub (ws' := [(gq, .inr (4, [.int mc_gq, .ref tE, .int 0]))]) [1] rfl
    have hDc := hD.sub (ws' := [(gq, .inr (4, [.int mc_gq, .ref tE, .int 0]))]) [1] (by decide) rfl
    have hKc := hK.sub (tys' := []) [] rfl
    have hFc := va_free (wc := [(gq, .inr (4, [.int mc_gq, .ref tE, .int 0]))]) hD hS hA [1] rfl
    refine va_calli (va_runV (As := []) (rest := [.int p0]) ⟨hx, hb, hml, hown, hts⟩ (c_AL_size l hl9 dC dI tE gq mc_gq 0 (.ref tE) _ ) (cwV 0 hts (goodIn_app (goodIn_r _ [4, 5, 6, 7] (by rfl) (by decide +kernel)) gg_c_isGuest_c_AL_size) rfl rfl rfl (by decide +kernel) ⟨Nat.le_of_ble_eq_true rfl, Nat.le_of_ble_eq_true rfl⟩) ⟨Pre0.blind, va_recv hKc hPc (ci := 4) (q0 := 0) rfl rfl, Pre0.give hPc hKc hDc hT hS hFc⟩ rfl rfl hl.1 rfl (lv_room (Nat.le_of_ble_eq_true rfl)) dX5_isGuest_9 ⟨Nat.le_of_ble_eq_true rfl, Nat.le_of_ble_eq_true rfl⟩) hS (fun q _ h => hFc q h) hFc (fun r_2 u t H1 locs ht hvm hw hB hz1 hk1 hS => ?_)
    obtain ⟨hP1, hK1, hD1⟩ := hB
    rw [ht] at hP1
    have hK1 := va_K.moved hvm.symm hK1
    obtain ⟨hP, hD⟩ := va_join (wr := [(h0, .inr (10, [.ref fq, .ref sq, .ref gq, .ref nq, .ref dq, .ref pq, .int pl, .int bl, .int tb]))]) (w1 := [(gq, .inr (4, [.int mc_gq, .ref tE, .int 0]))]) hP hD [1] [0] rfl rfl (by decide) (by decide) hk1 hFc hP1 hD1
    generalize H1 = H at hP hS ⊢
    have hP : va_P (dC, dI) vwCl [(h0, .inr (10, [.ref fq, .ref sq, .ref gq, .ref nq, .ref dq, .ref pq, .int pl, .int bl, .int tb])), (gq, .inr (4, [.int mc_gq, .ref tE, .int 0]))] H := hP
    have hD : va_D A [(h0, .inr (10, [.ref fq, .ref sq, .ref gq, .ref nq, .ref dq, .ref pq, .int pl, .int bl, .int tb])), (gq, .inr (4, [.int mc_gq, .ref tE, .int 0]))] := hD
    refine W.widen (k := 0) (n := 0) (by omega) (by omega) ?_
    obtain rfl : r_2 = 0 := hw
    refine lv_icmp_ge (tgt := 19) hx hb dX5_isGuest_12 (by decide) (fun _ => ?_) (fun c_3 => absurd (Int32.not_lt.mp (by assumption)) c_3)
    refine lv_iconst (v := 0) hx hb dX5_isGuest_19 (by decide) ?_
    have hP9 := hP.sub (ws' := [(h0, .inr (10, [.ref fq, .ref sq, .ref gq, .ref nq, .ref dq, .ref pq, .int pl, .int bl, .int tb])), (gq, .inr (4, [.int mc_gq, .ref tE, .int 0]))]) [0, 1] rfl
    have hD9 := hD.sub (ws' := [(h0, .inr (10, [.ref fq, .ref sq, .ref gq, .ref nq, .ref dq, .ref pq, .int pl, .int bl, .int tb])), (gq, .inr (4, [.int mc_gq, .ref tE, .int 0]))]) [0, 1] (by decide) rfl
    have hK9 := hK.sub (tys' := []) [] rfl
    exact W.zret (v := 0) hx hb hr (by decide) (fun t ht hW => ⟨⟨0, (), rfl, rfl, by rw [ht]; exact hP9, va_K.moved hW.alike hK9, hD9⟩, hS.F ht⟩) hS.2.2 dX5_isGuest_20
def v_c_isRoom : List Cond := .code yX5_isRoom cX5_isRoom 3 (some .boolean) :: ([Cond.code yX5_isFloor cX5_isFloor 2 (some .boolean), Cond.fieldLink RX5 10 "HotelOfBells" "floors" "Ljava/util/ArrayList;", Cond.code yJx4a65c_size_8abf5 cJx4a65c_size_8abf5 1 (some .int), Cond.fieldLink RJx4a65c 48 "java/util/ArrayList" "size" "I", Cond.methodLink RX5 49 yJx4a65c_size_8abf5, Cond.instanceMethod yJx4a65c_size_8abf5, Cond.selects RJx4a65c yJx4a65c_size_8abf5 yJx4a65c_size_8abf5, Cond.initialized RJx4a65c, Cond.methodLink RX5 67 yX5_isFloor, Cond.instanceMethod yX5_isFloor, Cond.selects RX5 yX5_isFloor yX5_isFloor, Cond.initialized RX5] ++ (wsX50 ++ (wsJx4a65c0 ++ [])))
theorem u_c_isRoom_X5 : ∀ w ∈ wsX50, w ∈ v_c_isRoom := fun _ h => List.mem_cons_of_mem _ (List.mem_append_right _ (List.mem_append_left _ h))
theorem u_c_isRoom_Jx4a65c : ∀ w ∈ wsJx4a65c0, w ∈ v_c_isRoom := fun _ h => List.mem_cons_of_mem _ (List.mem_append_right _ (List.mem_append_right _ (List.mem_append_left _ h)))
theorem gg_c_isRoom_c_isFloor : GoodIn v_c_isRoom v_c_isFloor := goodIn_r _ [1, 2, 3, 4, 5, 6, 7, 8, 13, 14, 15, 16, 17, 18, 19, 20, 21, 22, 23, 24] (by rfl) (by decide +kernel)
set_option maxHeartbeats 4000000 in
set_option maxRecDepth 100000 in
theorem c_isRoom (l : Launch) (hl9 : l.stackTraces = false) (dC : Nat → ClassId) (dI : Nat → Nat → Nat) (tE : Nat) (h0 : Nat) (fq : Nat) (sq : Nat) (gq : Nat) (nq : Nat) (dq : Nat) (pq : Nat) (pl : Int32) (bl : Int32) (tb : Int32) (mc_fq : Int32) (p0 : Int32) (p1 : Int32) (sz : Nat) : Met l yX5_isRoom v_c_isRoom ({ frames := 2, cells := 0, slots := 0, locals := 41 }) (va_Pc [.ref h0, .int p0, .int p1] (Pre0 dC dI tE sz [] [(h0, .inr (10, [.ref fq, .ref sq, .ref gq, .ref nq, .ref dq, .ref pq, .int pl, .int bl, .int tb])), (fq, .inr (4, [.int mc_fq, .ref tE, .int 0]))])) (va_Qi (fun (r : Int32) (_ : Unit) => r = 0) (fun _ t => Pst dC dI [] (va_A [(h0, .inr (10, [.ref fq, .ref sq, .ref gq, .ref nq, .ref dq, .ref pq, .int pl, .int bl, .int tb])), (fq, .inr (4, [.int mc_fq, .ref tE, .int 0]))] sz) [(h0, .inr (10, [.ref fq, .ref sq, .ref gq, .ref nq, .ref dq, .ref pq, .int pl, .int bl, .int tb])), (fq, .inr (4, [.int mc_fq, .ref tE, .int 0]))] t) (va_A [(h0, .inr (10, [.ref fq, .ref sq, .ref gq, .ref nq, .ref dq, .ref pq, .int pl, .int bl, .int tb])), (fq, .inr (4, [.int mc_fq, .ref tE, .int 0]))] sz)) 0 0 (va_A [(h0, .inr (10, [.ref fq, .ref sq, .ref gq, .ref nq, .ref dq, .ref pq, .int pl, .int bl, .int tb])), (fq, .inr (4, [.int mc_fq, .ref tE, .int 0]))] sz) := by
  refine Met.ofW (cc := cX5_isRoom) (maxL := 3) (ret := (some .boolean)) (by decide) rfl ?_
  intro p e s m args below meth c s₁ B hml hv
  obtain ⟨rfl, hsz, hP, hK, hD0, hT⟩ := hv
  have hx := B.exec
  have hb := B.bytes
  have hr := B.returns
  have hts := atoms_spec (ws := v_c_isRoom) B.pre
  have hown : s.vm.findClass RX5 = some m.cls := findClass_of_methodNamed B.named
  have hlocks := B.notSynchronized
  subst hsz
  have hD := hD0.self (sz := s.heap.size)
  generalize hAe : va_A [(h0, .inr (10, [.ref fq, .ref sq, .ref gq, .ref nq, .ref dq, .ref pq, .int pl, .int bl, .int tb])), (fq, .inr (4, [.int mc_fq, .ref tE, .int 0]))] s.heap.size = A at hD hT ⊢
  have hA : ∀ q : Nat, s.heap.size ≤ q → A q := fun q h => by rw [← hAe]; exact Or.inr h
  have hS : va_S A s.heap s.heap [] := va_S.rf
  have hl := lv_entry ([.ref h0, .int p0, .int p1]) (n := 3) (Nat.le_of_ble_eq_true rfl)
  rw [lg_entry_eq]
  generalize (lg_sl ([.ref h0, .int p0, .int p1]) ++ List.replicate (3 - (lg_sl ([.ref h0, .int p0, .int p1])).length) Slot.unset).toArray = ls at hl ⊢
  have hl : lv_has ls 3 [(0, .ref h0), (1, .int p0), (2, .int p1)] := hl
  refine lv_aload_n hx hb dX5_isRoom_0 rfl (lv_at hl 0 rfl) ?_
  refine lv_iload_n hx hb dX5_isRoom_1 rfl (lv_at hl 1 rfl) ?_
  have hPc := hP.sub (ws' := [(h0, .inr (10, [.ref fq, .ref sq, .ref gq, .ref nq, .ref dq, .ref pq, .int pl, .int bl, .int tb])), (fq, .inr (4, [.int mc_fq, .ref tE, .int 0]))]) [0, 1] rfl
  have hDc := hD.sub (ws' := [(h0, .inr (10, [.ref fq, .ref sq, .ref gq, .ref nq, .ref dq, .ref pq, .int pl, .int bl, .int tb])), (fq, .inr (4, [.int mc_fq, .ref tE, .int 0]))]) [0, 1] (by decide) rfl
  have hKc := hK.sub (tys' := []) [] rfl
  have hFc := va_free (wc := [(h0, .inr (10, [.ref fq, .ref sq, .ref gq, .ref nq, .ref dq, .ref pq, .int pl, .int bl, .int tb])), (fq, .inr (4, [.int mc_fq, .ref tE, .int 0]))]) hD hS hA [0, 1] rfl
  refine va_calli (va_runV (As := [.int p0]) (rest := []) ⟨hx, hb, hml, hown, hts⟩ (c_isFloor l hl9 dC dI tE h0 fq sq gq nq dq pq pl bl tb mc_fq p0 _ ) (cwV 1 hts (goodIn_app (goodIn_r _ [9, 10, 11, 12] (by rfl) (by decide +kernel)) gg_c_isRoom_c_isFloor) rfl rfl rfl (by decide +kernel) ⟨Nat.le_of_ble_eq_true rfl, Nat.le_of_ble_eq_true rfl⟩) ⟨Pre0.blind, va_recv hKc hPc (ci := 10) (q0 := 0) rfl rfl, Pre0.give hPc hKc hDc hT hS hFc⟩ rfl rfl hl.1 rfl (lv_room (Nat.le_of_ble_eq_true rfl)) dX5_isRoom_2 ⟨Nat.le_of_ble_eq_true rfl, Nat.le_of_ble_eq_true rfl⟩) hS (fun q _ h => hFc q h) hFc (fun r_1 u t H1 locs ht hvm hw hB hz1 hk1 hS => ?_)
  obtain ⟨hP1, hK1, hD1⟩ := hB
  rw [ht] at hP1
  have hK1 := va_K.moved hvm.symm hK1
  obtain ⟨hP, hD⟩ := va_join (wr := []) (w1 := [(h0, .inr (10, [.ref fq, .ref sq, .ref gq, .ref nq, .ref dq, .ref pq, .int pl, .int bl, .int tb])), (fq, .inr (4, [.int mc_fq, .ref tE, .int 0]))]) hP hD [0, 1] [] rfl rfl (by decide) (by decide) hk1 hFc hP1 hD1
  generalize H1 = H at hP hS ⊢
  have hP : va_P (dC, dI) vwCl [(h0, .inr (10, [.ref fq, .ref sq, .ref gq, .ref nq, .ref dq, .ref pq, .int pl, .int bl, .int tb])), (fq, .inr (4, [.int mc_fq, .ref tE, .int 0]))] H := hP
  have hD : va_D A [(h0, .inr (10, [.ref fq, .ref sq, .ref gq, .ref nq, .ref dq, .ref pq, .int pl, .int bl, .int tb])), (fq, .inr (4, [.int mc_fq, .ref tE, .int 0]))] := hD
  refine W.widen (k := 0) (n := 0) (by omega) (by omega) ?_
  obtain rfl : r_1 = 0 := hw
  refine lv_if_eq (tgt := 34) hx hb dX5_isRoom_5 (by decide) (fun _ => ?_) (fun c_2 => absurd (by decide) c_2)
  refine lv_iconst (v := 0) hx hb dX5_isRoom_34 (by decide) ?_
  have hP9 := hP.sub (ws' := [(h0, .inr (10, [.ref fq, .ref sq, .ref gq, .ref nq, .ref dq, .ref pq, .int pl, .int bl, .int tb])), (fq, .inr (4, [.int mc_fq, .ref tE, .int 0]))]) [0, 1] rfl
  have hD9 := hD.sub (ws' := [(h0, .inr (10, [.ref fq, .ref sq, .ref gq, .ref nq, .ref dq, .ref pq, .int pl, .int bl, .int tb])), (fq, .inr (4, [.int mc_fq, .ref tE, .int 0]))]) [0, 1] (by decide) rfl
  have hK9 := hK.sub (tys' := []) [] rfl
  exact W.zret (v := 0) hx hb hr (by decide) (fun t ht hW => ⟨⟨0, (), rfl, rfl, by rw [ht]; exact hP9, va_K.moved hW.alike hK9, hD9⟩, hS.F ht⟩) hS.2.2 dX5_isRoom_35
def v_c_isTone_t : List Cond := .code yX5_isTone cX5_isTone 1 (some .boolean) :: ([] ++ [])
set_option maxHeartbeats 4000000 in
set_option maxRecDepth 100000 in
theorem c_isTone_t (l : Launch) (hl9 : l.stackTraces = false) (dC : Nat → ClassId) (dI : Nat → Nat → Nat) (tE : Nat) (p0 : Int32) (sz : Nat) (h1 : ¬ p0 < 0) (h2 : ¬ 3 < p0) : Met l yX5_isTone v_c_isTone_t ({ frames := 0, cells := 0, slots := 0, locals := 0 }) (va_Pc [.int p0] (Pre0 dC dI tE sz [] [])) (va_Qi (fun (r : Int32) (_ : Unit) => r = 1) (fun _ t => Pst dC dI [] (va_A [] sz) [] t) (va_A [] sz)) 0 0 (va_A [] sz) := by
  refine Met.ofW (cc := cX5_isTone) (maxL := 1) (ret := (some .boolean)) (by decide) rfl ?_
  intro p e s m args below meth c s₁ B hml hv
  obtain ⟨rfl, hsz, hP, hK, hD0, hT⟩ := hv
  have hx := B.exec
  have hb := B.bytes
  have hr := B.returns
  have hts := atoms_spec (ws := v_c_isTone_t) B.pre
  have hown : s.vm.findClass RX5 = some m.cls := findClass_of_methodNamed B.named
  have hlocks := B.notSynchronized
  subst hsz
  have hD := hD0.self (sz := s.heap.size)
  generalize hAe : va_A [] s.heap.size = A at hD hT ⊢
  have hA : ∀ q : Nat, s.heap.size ≤ q → A q := fun q h => by rw [← hAe]; exact Or.inr h
  have hS : va_S A s.heap s.heap [] := va_S.rf
  have hl := lv_entry ([.int p0]) (n := 1) (Nat.le_of_ble_eq_true rfl)
  rw [lg_entry_eq]
  generalize (lg_sl ([.int p0]) ++ List.replicate (1 - (lg_sl ([.int p0])).length) Slot.unset).toArray = ls at hl ⊢
  have hl : lv_has ls 1 [(0, .int p0)] := hl
  refine lv_iload_n hx hb dX5_isTone_0 rfl (lv_at hl 0 rfl) ?_
  refine lv_if_lt (tgt := 13) hx hb dX5_isTone_1 (by decide) (fun c_1 => absurd c_1 h1) (fun _ => ?_)
  refine lv_iload_n hx hb dX5_isTone_4 rfl (lv_at hl 0 rfl) ?_
  refine lv_iconst (v := 4) hx hb dX5_isTone_5 (by decide) ?_
  refine lv_icmp_ge (tgt := 13) hx hb dX5_isTone_6 (by decide) (fun c_2 => absurd c_2 (not_le4 h2)) (fun _ => ?_)
  refine lv_iconst (v := 1) hx hb dX5_isTone_9 (by decide) ?_
  refine lv_goto (tgt := 14) hx hb dX5_isTone_10 (by decide) ?_
  have hP9 := hP.sub (ws' := []) [] rfl
  have hD9 := hD.sub (ws' := []) [] (by decide) rfl
  have hK9 := hK.sub (tys' := []) [] rfl
  exact W.zret (v := 1) hx hb hr (by decide) (fun t ht hW => ⟨⟨1, (), rfl, rfl, by rw [ht]; exact hP9, va_K.moved hW.alike hK9, hD9⟩, hS.F ht⟩) hS.2.2 dX5_isTone_14
def v_c_isTone_f : List Cond := .code yX5_isTone cX5_isTone 1 (some .boolean) :: ([] ++ [])
set_option maxHeartbeats 4000000 in
set_option maxRecDepth 100000 in
theorem c_isTone_f (l : Launch) (hl9 : l.stackTraces = false) (dC : Nat → ClassId) (dI : Nat → Nat → Nat) (tE : Nat) (p0 : Int32) (sz : Nat) (h : p0 < 0 ∨ 3 < p0) : Met l yX5_isTone v_c_isTone_f ({ frames := 0, cells := 0, slots := 0, locals := 0 }) (va_Pc [.int p0] (Pre0 dC dI tE sz [] [])) (va_Qi (fun (r : Int32) (_ : Unit) => r = 0) (fun _ t => Pst dC dI [] (va_A [] sz) [] t) (va_A [] sz)) 0 0 (va_A [] sz) := by
  refine Met.ofW (cc := cX5_isTone) (maxL := 1) (ret := (some .boolean)) (by decide) rfl ?_
  intro p e s m args below meth c s₁ B hml hv
  obtain ⟨rfl, hsz, hP, hK, hD0, hT⟩ := hv
  have hx := B.exec
  have hb := B.bytes
  have hr := B.returns
  have hts := atoms_spec (ws := v_c_isTone_f) B.pre
  have hown : s.vm.findClass RX5 = some m.cls := findClass_of_methodNamed B.named
  have hlocks := B.notSynchronized
  subst hsz
  have hD := hD0.self (sz := s.heap.size)
  generalize hAe : va_A [] s.heap.size = A at hD hT ⊢
  have hA : ∀ q : Nat, s.heap.size ≤ q → A q := fun q h => by rw [← hAe]; exact Or.inr h
  have hS : va_S A s.heap s.heap [] := va_S.rf
  have hl := lv_entry ([.int p0]) (n := 1) (Nat.le_of_ble_eq_true rfl)
  rw [lg_entry_eq]
  generalize (lg_sl ([.int p0]) ++ List.replicate (1 - (lg_sl ([.int p0])).length) Slot.unset).toArray = ls at hl ⊢
  have hl : lv_has ls 1 [(0, .int p0)] := hl
  refine lv_iload_n hx hb dX5_isTone_0 rfl (lv_at hl 0 rfl) ?_
  refine lv_if_lt (tgt := 13) hx hb dX5_isTone_1 (by decide) (fun c_1 => ?_) (fun c_1 => ?_)
  · refine lv_iconst (v := 0) hx hb dX5_isTone_13 (by decide) ?_
    have hP9 := hP.sub (ws' := []) [] rfl
    have hD9 := hD.sub (ws' := []) [] (by decide) rfl
    have hK9 := hK.sub (tys' := []) [] rfl
    exact W.zret (v := 0) hx hb hr (by decide) (fun t ht hW => ⟨⟨0, (), rfl, rfl, by rw [ht]; exact hP9, va_K.moved hW.alike hK9, hD9⟩, hS.F ht⟩) hS.2.2 dX5_isTone_14
  · refine lv_iload_n hx hb dX5_isTone_4 rfl (lv_at hl 0 rfl) ?_
    refine lv_iconst (v := 4) hx hb dX5_isTone_5 (by decide) ?_
    refine lv_icmp_ge (tgt := 13) hx hb dX5_isTone_6 (by decide) (fun _ => ?_) (fun c_2 => absurd (le4 (h.resolve_left (by assumption))) c_2)
    refine lv_iconst (v := 0) hx hb dX5_isTone_13 (by decide) ?_
    have hP9 := hP.sub (ws' := []) [] rfl
    have hD9 := hD.sub (ws' := []) [] (by decide) rfl
    have hK9 := hK.sub (tys' := []) [] rfl
    exact W.zret (v := 0) hx hb hr (by decide) (fun t ht hW => ⟨⟨0, (), rfl, rfl, by rw [ht]; exact hP9, va_K.moved hW.alike hK9, hD9⟩, hS.F ht⟩) hS.2.2 dX5_isTone_14
def v_c_heardWith : List Cond := .code yX5_heardWith cX5_heardWith 2 (some .int) :: ([Cond.constant RX5 247 (100000)] ++ [])
set_option maxHeartbeats 4000000 in
set_option maxRecDepth 100000 in
theorem c_heardWith (l : Launch) (hl9 : l.stackTraces = false) (dC : Nat → ClassId) (dI : Nat → Nat → Nat) (tE : Nat) (p0 : Int32) (p1 : Int32) (sz : Nat) : Met l yX5_heardWith v_c_heardWith ({ frames := 0, cells := 0, slots := 0, locals := 0 }) (va_Pc [.int p0, .int p1] (Pre0 dC dI tE sz [] [])) (va_Qi (fun (r : Int32) (_ : Unit) => True) (fun _ t => Pst dC dI [] (va_A [] sz) [] t) (va_A [] sz)) 0 0 (va_A [] sz) := by
  refine Met.ofW (cc := cX5_heardWith) (maxL := 2) (ret := (some .int)) (by decide) rfl ?_
  intro p e s m args below meth c s₁ B hml hv
  obtain ⟨rfl, hsz, hP, hK, hD0, hT⟩ := hv
  have hx := B.exec
  have hb := B.bytes
  have hr := B.returns
  have hts := atoms_spec (ws := v_c_heardWith) B.pre
  have hown : s.vm.findClass RX5 = some m.cls := findClass_of_methodNamed B.named
  have hlocks := B.notSynchronized
  subst hsz
  have hD := hD0.self (sz := s.heap.size)
  generalize hAe : va_A [] s.heap.size = A at hD hT ⊢
  have hA : ∀ q : Nat, s.heap.size ≤ q → A q := fun q h => by rw [← hAe]; exact Or.inr h
  have hS : va_S A s.heap s.heap [] := va_S.rf
  have hl := lv_entry ([.int p0, .int p1]) (n := 2) (Nat.le_of_ble_eq_true rfl)
  rw [lg_entry_eq]
  generalize (lg_sl ([.int p0, .int p1]) ++ List.replicate (2 - (lg_sl ([.int p0, .int p1])).length) Slot.unset).toArray = ls at hl ⊢
  have hl : lv_has ls 2 [(0, .int p0), (1, .int p1)] := hl
  refine lv_iload_n hx hb dX5_heardWith_0 rfl (lv_at hl 0 rfl) ?_
  refine lv_ldc (v := 100000) hx hb hown (hts (.constant RX5 247 (100000)) (List.mem_of_getElem? (i := 1) rfl)) dX5_heardWith_1 ?_
  refine lv_irem hx hb dX5_heardWith_3 (by decide) ?_
  refine lv_topi (fun x_1 e_2 => ?_)
  refine lv_bipush (v := 10) hx hb dX5_heardWith_4 (by decide) ?_
  refine lv_imul hx hb dX5_heardWith_6 ?_
  refine lv_topi (fun x_3 e_4 => ?_)
  refine lv_iload_n hx hb dX5_heardWith_7 rfl (lv_at hl 1 rfl) ?_
  refine lv_iadd hx hb dX5_heardWith_8 ?_
  refine lv_topi (fun x_5 e_6 => ?_)
  refine lv_iconst (v := 1) hx hb dX5_heardWith_9 (by decide) ?_
  refine lv_iadd hx hb dX5_heardWith_10 ?_
  refine lv_topi (fun x_7 e_8 => ?_)
  have hP9 := hP.sub (ws' := []) [] rfl
  have hD9 := hD.sub (ws' := []) [] (by decide) rfl
  have hK9 := hK.sub (tys' := []) [] rfl
  exact W.iret (v := x_7) hx hb hr (fun t ht hW => ⟨⟨x_7, (), rfl, trivial, by rw [ht]; exact hP9, va_K.moved hW.alike hK9, hD9⟩, hS.F ht⟩) hS.2.2 dX5_heardWith_11
def v_c_toneAt : List Cond := .code yX5_toneAt cX5_toneAt 2 (some .int) :: ([] ++ [])
set_option maxHeartbeats 4000000 in
set_option maxRecDepth 100000 in
theorem c_toneAt (l : Launch) (hl9 : l.stackTraces = false) (dC : Nat → ClassId) (dI : Nat → Nat → Nat) (tE : Nat) (p0 : Int32) (p1 : Int32) (sz : Nat) (h1 : ¬ p1 ≤ 0) (h2 : ¬ p1 = 0) : Met l yX5_toneAt v_c_toneAt ({ frames := 0, cells := 0, slots := 0, locals := 0 }) (va_Pc [.int p0, .int p1] (Pre0 dC dI tE sz [] [])) (va_Qi (fun (r : Int32) (_ : Unit) => True) (fun _ t => Pst dC dI [] (va_A [] sz) [] t) (va_A [] sz)) 0 0 (va_A [] sz) := by
  refine Met.ofW (cc := cX5_toneAt) (maxL := 2) (ret := (some .int)) (by decide) rfl ?_
  intro p e s m args below meth c s₁ B hml hv
  obtain ⟨rfl, hsz, hP, hK, hD0, hT⟩ := hv
  have hx := B.exec
  have hb := B.bytes
  have hr := B.returns
  have hts := atoms_spec (ws := v_c_toneAt) B.pre
  have hown : s.vm.findClass RX5 = some m.cls := findClass_of_methodNamed B.named
  have hlocks := B.notSynchronized
  subst hsz
  have hD := hD0.self (sz := s.heap.size)
  generalize hAe : va_A [] s.heap.size = A at hD hT ⊢
  have hA : ∀ q : Nat, s.heap.size ≤ q → A q := fun q h => by rw [← hAe]; exact Or.inr h
  have hS : va_S A s.heap s.heap [] := va_S.rf
  have hl := lv_entry ([.int p0, .int p1]) (n := 2) (Nat.le_of_ble_eq_true rfl)
  rw [lg_entry_eq]
  generalize (lg_sl ([.int p0, .int p1]) ++ List.replicate (2 - (lg_sl ([.int p0, .int p1])).length) Slot.unset).toArray = ls at hl ⊢
  have hl : lv_has ls 2 [(0, .int p0), (1, .int p1)] := hl
  refine lv_iload_n hx hb dX5_toneAt_0 rfl (lv_at hl 1 rfl) ?_
  refine lv_if_le (tgt := 15) hx hb dX5_toneAt_1 (by decide) (fun c_1 => absurd c_1 h1) (fun _ => ?_)
  refine lv_iload_n hx hb dX5_toneAt_4 rfl (lv_at hl 0 rfl) ?_
  refine lv_iload_n hx hb dX5_toneAt_5 rfl (lv_at hl 1 rfl) ?_
  refine lv_idiv hx hb dX5_toneAt_6 h2 ?_
  refine lv_topi (fun x_2 e_3 => ?_)
  refine lv_bipush (v := 10) hx hb dX5_toneAt_7 (by decide) ?_
  refine lv_irem hx hb dX5_toneAt_9 (by decide) ?_
  refine lv_topi (fun x_4 e_5 => ?_)
  refine lv_iconst (v := 1) hx hb dX5_toneAt_10 (by decide) ?_
  refine lv_isub hx hb dX5_toneAt_11 ?_
  refine lv_topi (fun x_6 e_7 => ?_)
  refine lv_goto (tgt := 16) hx hb dX5_toneAt_12 (by decide) ?_
  have hP9 := hP.sub (ws' := []) [] rfl
  have hD9 := hD.sub (ws' := []) [] (by decide) rfl
  have hK9 := hK.sub (tys' := []) [] rfl
  exact W.iret (v := x_6) hx hb hr (fun t ht hW => ⟨⟨x_6, (), rfl, trivial, by rw [ht]; exact hP9, va_K.moved hW.alike hK9, hD9⟩, hS.F ht⟩) hS.2.2 dX5_toneAt_16
def v_c_Floor_init : List Cond := .code yX1_init cX1_init 2 none :: ([Cond.methodLink RX1 1 objectInit, Cond.instanceMethod objectInit, Cond.code objectInit ⟨#[0xb1]⟩ 1 none, Cond.fieldLink RX1 7 "HotelOfBells$Floor" "tune" "I", Cond.fieldLink RX1 13 "HotelOfBells$Floor" "span" "I", Cond.fieldLink RX1 16 "HotelOfBells$Floor" "rooms" "I"] ++ (wsX10 ++ []))
theorem u_c_Floor_init_X1 : ∀ w ∈ wsX10, w ∈ v_c_Floor_init := fun _ h => List.mem_cons_of_mem _ (List.mem_append_right _ (List.mem_append_left _ h))
set_option maxHeartbeats 4000000 in
set_option maxRecDepth 100000 in
theorem c_Floor_init (l : Launch) (hl9 : l.stackTraces = false) (dC : Nat → ClassId) (dI : Nat → Nat → Nat) (tE : Nat) (h0 : Nat) (p0 : Int32) (sz : Nat) : Met l yX1_init v_c_Floor_init ({ frames := 1, cells := 0, slots := 0, locals := 12 }) (va_Pc [.ref h0, .int p0] (Pre0 dC dI tE sz [] [(h0, .inr (6, [.int 0, .int 0, .int 0, .int 0]))])) (va_Qv (fun (_ : Unit) => True) (fun _ t => Pst dC dI [] (va_A [(h0, .inr (6, [.int 0, .int 0, .int 0, .int 0]))] sz) [(h0, .inr (6, [.int p0, .int 1, .int 10, .int 0]))] t) (va_A [(h0, .inr (6, [.int 0, .int 0, .int 0, .int 0]))] sz)) 0 0 (va_A [(h0, .inr (6, [.int 0, .int 0, .int 0, .int 0]))] sz) := by
  refine Met.ofW (cc := cX1_init) (maxL := 2) (ret := none) (by decide) rfl ?_
  intro p e s m args below meth c s₁ B hml hv
  obtain ⟨rfl, hsz, hP, hK, hD0, hT⟩ := hv
  have hx := B.exec
  have hb := B.bytes
  have hr := B.returns
  have hts := atoms_spec (ws := v_c_Floor_init) B.pre
  have hown : s.vm.findClass RX1 = some m.cls := findClass_of_methodNamed B.named
  have hlocks := B.notSynchronized
  have hin : meth.name = "<init>" := (name_of_methodNamed B.named B.method).1
  subst hsz
  have hD := hD0.self (sz := s.heap.size)
  generalize hAe : va_A [(h0, .inr (6, [.int 0, .int 0, .int 0, .int 0]))] s.heap.size = A at hD hT ⊢
  have hA : ∀ q : Nat, s.heap.size ≤ q → A q := fun q h => by rw [← hAe]; exact Or.inr h
  have hS : va_S A s.heap s.heap [] := va_S.rf
  have hl := lv_entry ([.ref h0, .int p0]) (n := 2) (Nat.le_of_ble_eq_true rfl)
  rw [lg_entry_eq]
  generalize (lg_sl ([.ref h0, .int p0]) ++ List.replicate (2 - (lg_sl ([.ref h0, .int p0])).length) Slot.unset).toArray = ls at hl ⊢
  have hl : lv_has ls 2 [(0, .ref h0), (1, .int p0)] := hl
  refine lv_aload_n hx hb dX1_init_0 rfl (lv_at hl 0 rfl) ?_
  refine W.objInit hx hb hown (hts (.methodLink RX1 1 objectInit) (List.mem_of_getElem? (i := 1) rfl)) (hts (.instanceMethod objectInit) (List.mem_of_getElem? (i := 2) rfl)) (hts (.code objectInit ⟨#[0xb1]⟩ 1 none) (List.mem_of_getElem? (i := 3) rfl)) rfl (by rw [hml]; exact hl.1) rfl dX1_init_1 (Nat.le_of_ble_eq_true rfl) (Nat.le_of_ble_eq_true rfl) ?_
  refine W.eq (g2 := F0 m 4 ls []) rfl ?_
  refine lv_aload_n hx hb dX1_init_4 rfl (lv_at hl 0 rfl) ?_
  refine lv_iconst (v := 1) hx hb dX1_init_5 (by decide) ?_
  refine va_put (D := (dC, dI)) (ci := 6) (v := .int 1) (ty := .int) (C := RX1) (T := TX1) (N := 4) hx hb hts u_c_Floor_init_X1 tyX1 tyX1_ok nmX1 hown hK hP hD hS 0 rfl rfl 1 (by decide) (hts (.fieldLink RX1 7 "HotelOfBells$Floor" "tune" "I") (List.mem_of_getElem? (i := 4) rfl)) (fun _ h9 => h9) rfl (by decide +kernel) rfl rfl (Nat.le_of_ble_eq_true rfl) dX1_init_6 (fun H locs hP hD hS => ?_)
  have hP : va_P (dC, dI) vwCl [(h0, .inr (6, [.int 0, .int 1, .int 0, .int 0]))] H := hP
  have hD : va_D A [(h0, .inr (6, [.int 0, .int 1, .int 0, .int 0]))] := hD
  refine lv_aload_n hx hb dX1_init_9 rfl (lv_at hl 0 rfl) ?_
  refine lv_bipush (v := 10) hx hb dX1_init_10 (by decide) ?_
  refine va_put (D := (dC, dI)) (ci := 6) (v := .int 10) (ty := .int) (C := RX1) (T := TX1) (N := 4) hx hb hts u_c_Floor_init_X1 tyX1 tyX1_ok nmX1 hown hK hP hD hS 0 rfl rfl 2 (by decide) (hts (.fieldLink RX1 13 "HotelOfBells$Floor" "span" "I") (List.mem_of_getElem? (i := 5) rfl)) (fun _ h9 => h9) rfl (by decide +kernel) rfl rfl (Nat.le_of_ble_eq_true rfl) dX1_init_12 (fun H locs hP hD hS => ?_)
  have hP : va_P (dC, dI) vwCl [(h0, .inr (6, [.int 0, .int 1, .int 10, .int 0]))] H := hP
  have hD : va_D A [(h0, .inr (6, [.int 0, .int 1, .int 10, .int 0]))] := hD
  refine lv_aload_n hx hb dX1_init_15 rfl (lv_at hl 0 rfl) ?_
  refine lv_iload_n hx hb dX1_init_16 rfl (lv_at hl 1 rfl) ?_
  refine va_putF (D := (dC, dI)) (ci := 6) (v := .int p0) (ty := .int) (C := RX1) (T := TX1) (N := 4) hx hb hts u_c_Floor_init_X1 tyX1 tyX1_ok nmX1 hown hK hP hD hS 0 rfl rfl 0 (by decide) (hts (.fieldLink RX1 16 "HotelOfBells$Floor" "rooms" "I") (List.mem_of_getElem? (i := 6) rfl)) (fun _ h9 => h9) rfl hin rfl (by decide +kernel) rfl rfl (Nat.le_of_ble_eq_true rfl) dX1_init_17 (fun H locs hP hD hS => ?_)
  have hP : va_P (dC, dI) vwCl [(h0, .inr (6, [.int p0, .int 1, .int 10, .int 0]))] H := hP
  have hD : va_D A [(h0, .inr (6, [.int p0, .int 1, .int 10, .int 0]))] := hD
  have hP9 := hP.sub (ws' := [(h0, .inr (6, [.int p0, .int 1, .int 10, .int 0]))]) [0] rfl
  have hD9 := hD.sub (ws' := [(h0, .inr (6, [.int p0, .int 1, .int 10, .int 0]))]) [0] (by decide) rfl
  have hK9 := hK.sub (tys' := []) [] rfl
  exact W.vret hx hb hr (fun t ht hW => ⟨⟨(), rfl, trivial, by rw [ht]; exact hP9, va_K.moved hW.alike hK9, hD9⟩, hS.F ht⟩) hS.2.2 dX1_init_20
def v_c_Shaft_init : List Cond := .code yX4_init cX4_init 2 none :: ([Cond.methodLink RX4 3 objectInit, Cond.instanceMethod objectInit, Cond.code objectInit ⟨#[0xb1]⟩ 1 none, Cond.arrayClass .int, Cond.fieldLink RX4 9 "HotelOfBells$Shaft" "doors" "[I"] ++ (wsX40 ++ []))
theorem u_c_Shaft_init_X4 : ∀ w ∈ wsX40, w ∈ v_c_Shaft_init := fun _ h => List.mem_cons_of_mem _ (List.mem_append_right _ (List.mem_append_left _ h))
set_option maxHeartbeats 4000000 in
set_option maxRecDepth 100000 in
theorem c_Shaft_init (l : Launch) (hl9 : l.stackTraces = false) (dC : Nat → ClassId) (dI : Nat → Nat → Nat) (tE : Nat) (h0 : Nat) (sz : Nat) : Met l yX4_init v_c_Shaft_init ({ frames := 1, cells := 1, slots := 6, locals := 12 }) (va_Pc [.ref h0] (Pre0 dC dI tE sz [] [(h0, .inr (9, [.null]))])) (va_Qv (fun (_ : Unit) => True) (fun _ t => ∃ (qx0 : Nat), ∃ (cx0 : ClassId), ∃ (fx0 : Nat → Int32), Pst dC dI [(cx0, .int)] (va_A [(h0, .inr (9, [.null]))] sz) [(h0, .inr (9, [.ref qx0])), (qx0, .inl (cx0, 6, .inl fx0))] t) (va_A [(h0, .inr (9, [.null]))] sz)) 1 6 (va_A [(h0, .inr (9, [.null]))] sz) := by
  refine Met.ofW (cc := cX4_init) (maxL := 2) (ret := none) (by decide) rfl ?_
  intro p e s m args below meth c s₁ B hml hv
  obtain ⟨rfl, hsz, hP, hK, hD0, hT⟩ := hv
  have hx := B.exec
  have hb := B.bytes
  have hr := B.returns
  have hts := atoms_spec (ws := v_c_Shaft_init) B.pre
  have hown : s.vm.findClass RX4 = some m.cls := findClass_of_methodNamed B.named
  have hlocks := B.notSynchronized
  have hin : meth.name = "<init>" := (name_of_methodNamed B.named B.method).1
  subst hsz
  have hD := hD0.self (sz := s.heap.size)
  generalize hAe : va_A [(h0, .inr (9, [.null]))] s.heap.size = A at hD hT ⊢
  have hA : ∀ q : Nat, s.heap.size ≤ q → A q := fun q h => by rw [← hAe]; exact Or.inr h
  have hS : va_S A s.heap s.heap [] := va_S.rf
  have hl := lv_entry ([.ref h0]) (n := 2) (Nat.le_of_ble_eq_true rfl)
  rw [lg_entry_eq]
  generalize (lg_sl ([.ref h0]) ++ List.replicate (2 - (lg_sl ([.ref h0])).length) Slot.unset).toArray = ls at hl ⊢
  have hl : lv_has ls 2 [(0, .ref h0)] := hl
  refine lv_aload_n hx hb dX4_init_0 rfl (lv_at hl 0 rfl) ?_
  refine W.objInit hx hb hown (hts (.methodLink RX4 3 objectInit) (List.mem_of_getElem? (i := 1) rfl)) (hts (.instanceMethod objectInit) (List.mem_of_getElem? (i := 2) rfl)) (hts (.code objectInit ⟨#[0xb1]⟩ 1 none) (List.mem_of_getElem? (i := 3) rfl)) rfl (by rw [hml]; exact hl.1) rfl dX4_init_1 (Nat.le_of_ble_eq_true rfl) (Nat.le_of_ble_eq_true rfl) ?_
  refine W.eq (g2 := F0 m 4 ls []) rfl ?_
  refine lv_aload_n hx hb dX4_init_4 rfl (lv_at hl 0 rfl) ?_
  refine lv_bipush (v := 6) hx hb dX4_init_5 (by decide) ?_
  refine va_newa (atype := .int) (ty := .int) (N' := 6) (a0 := (6, .inl (fun _ => 0))) hx hb (hts (.arrayClass .int) (List.mem_of_getElem? (i := 4) rfl)) rfl hK hP hD hS hA (fun _ => rfl) (by decide) (by decide) (Nat.le_of_ble_eq_true rfl) (Nat.le_of_ble_eq_true rfl) (Nat.le_of_ble_eq_true rfl) dX4_init_7 (fun q_1 cA_2 H hK hP hD hS => ?_)
  have hP : va_P (dC, dI) vwCl [(h0, .inr (9, [.null])), (q_1, .inl (cA_2, 6, .inl (fun _ => 0)))] H := hP
  have hD : va_D A [(h0, .inr (9, [.null])), (q_1, .inl (cA_2, 6, .inl (fun _ => 0)))] := hD
  have hK : va_K (dC, dI) vwCl [(cA_2, .int)] s := hK
  refine W.widen (k := 1) (n := 6) (by omega) (by omega) ?_
  refine va_putF (D := (dC, dI)) (ci := 9) (v := .ref q_1) (ty := .array .int) (C := RX4) (T := TX4) (N := 1) hx hb hts u_c_Shaft_init_X4 tyX4 tyX4_ok nmX4 hown hK hP hD hS 0 rfl rfl 0 (by decide) (hts (.fieldLink RX4 9 "HotelOfBells$Shaft" "doors" "[I") (List.mem_of_getElem? (i := 5) rfl)) (fun _ h9 => h9) rfl hin rfl (by decide +kernel) rfl rfl (Nat.le_of_ble_eq_true rfl) dX4_init_9 (fun H locs hP hD hS => ?_)
  have hP : va_P (dC, dI) vwCl [(h0, .inr (9, [.ref q_1])), (q_1, .inl (cA_2, 6, .inl (fun _ => 0)))] H := hP
  have hD : va_D A [(h0, .inr (9, [.ref q_1])), (q_1, .inl (cA_2, 6, .inl (fun _ => 0)))] := hD
  refine lv_iconst (v := 0) hx hb dX4_init_12 (by decide) ?_
  refine lv_istore_n (lv' := [(1, .int 0), (0, .ref h0)]) hx hb dX4_init_13 rfl hl (by decide) rfl (fun ls hl => ?_)
  refine lv_iload_n hx hb dX4_init_14 rfl (lv_at hl 0 rfl) ?_
  refine lv_aload_n hx hb dX4_init_15 rfl (lv_at hl 1 rfl) ?_
  refine va_get (D := (dC, dI)) (ci := 9) (v := .ref q_1) (C := RX4) (T := TX4) (N := 1) hx hb hts u_c_Shaft_init_X4 hown hK hP 0 rfl rfl 0 (by decide) (hts (.fieldLink RX4 9 "HotelOfBells$Shaft" "doors" "[I") (List.mem_of_getElem? (i := 5) rfl)) (fun _ h9 => h9) rfl dX4_init_16 ?_
  refine va_alen (v := 6) hx hb hK hP 1 0 rfl rfl rfl dX4_init_19 ?_
  refine lv_icmp_ge (tgt := 36) hx hb dX4_init_20 (by decide) (fun c_3 => absurd c_3 (by decide)) (fun _ => ?_)
  refine lv_aload_n hx hb dX4_init_23 rfl (lv_at hl 1 rfl) ?_
  refine va_get (D := (dC, dI)) (ci := 9) (v := .ref q_1) (C := RX4) (T := TX4) (N := 1) hx hb hts u_c_Shaft_init_X4 hown hK hP 0 rfl rfl 0 (by decide) (hts (.fieldLink RX4 9 "HotelOfBells$Shaft" "doors" "[I") (List.mem_of_getElem? (i := 5) rfl)) (fun _ h9 => h9) rfl dX4_init_24 ?_
  refine lv_iload_n hx hb dX4_init_27 rfl (lv_at hl 0 rfl) ?_
  refine lv_iconst (v := (-1)) hx hb dX4_init_28 (by decide) ?_
  refine va_iast hx hb hK hP hD hS 1 0 rfl rfl (by unfold vp_in; decide) dX4_init_29 (fun H locs hP hD hS => ?_)
  obtain ⟨f_4, ef_4⟩ : ∃ z, z = upd (fun _ => 0) (0 : Int32).toNatClampNeg (-1) := ⟨_, rfl⟩
  rw [← ef_4] at hP hD
  have hP : va_P (dC, dI) vwCl [(h0, .inr (9, [.ref q_1])), (q_1, .inl (cA_2, 6, .inl f_4))] H := hP
  have hD : va_D A [(h0, .inr (9, [.ref q_1])), (q_1, .inl (cA_2, 6, .inl f_4))] := hD
  refine lv_iinc (v := 1) (lv' := [(1, .int 1), (0, .ref h0)]) hx hb dX4_init_30 hl (k := 0) rfl (by decide) (by decide) rfl (fun ls hl => ?_)
  refine lv_goto (tgt := 14) hx hb dX4_init_33 (by decide) ?_
  refine lv_iload_n hx hb dX4_init_14 rfl (lv_at hl 0 rfl) ?_
  refine lv_aload_n hx hb dX4_init_15 rfl (lv_at hl 1 rfl) ?_
  refine va_get (D := (dC, dI)) (ci := 9) (v := .ref q_1) (C := RX4) (T := TX4) (N := 1) hx hb hts u_c_Shaft_init_X4 hown hK hP 0 rfl rfl 0 (by decide) (hts (.fieldLink RX4 9 "HotelOfBells$Shaft" "doors" "[I") (List.mem_of_getElem? (i := 5) rfl)) (fun _ h9 => h9) rfl dX4_init_16 ?_
  refine va_alen (v := 6) hx hb hK hP 1 0 rfl rfl rfl dX4_init_19 ?_
  refine lv_icmp_ge (tgt := 36) hx hb dX4_init_20 (by decide) (fun c_5 => absurd c_5 (by decide)) (fun _ => ?_)
  refine lv_aload_n hx hb dX4_init_23 rfl (lv_at hl 1 rfl) ?_
  refine va_get (D := (dC, dI)) (ci := 9) (v := .ref q_1) (C := RX4) (T := TX4) (N := 1) hx hb hts u_c_Shaft_init_X4 hown hK hP 0 rfl rfl 0 (by decide) (hts (.fieldLink RX4 9 "HotelOfBells$Shaft" "doors" "[I") (List.mem_of_getElem? (i := 5) rfl)) (fun _ h9 => h9) rfl dX4_init_24 ?_
  refine lv_iload_n hx hb dX4_init_27 rfl (lv_at hl 0 rfl) ?_
  refine lv_iconst (v := (-1)) hx hb dX4_init_28 (by decide) ?_
  refine va_iast hx hb hK hP hD hS 1 0 rfl rfl (by unfold vp_in; decide) dX4_init_29 (fun H locs hP hD hS => ?_)
  obtain ⟨f_6, ef_6⟩ : ∃ z, z = upd f_4 (1 : Int32).toNatClampNeg (-1) := ⟨_, rfl⟩
  rw [← ef_6] at hP hD
  have hP : va_P (dC, dI) vwCl [(h0, .inr (9, [.ref q_1])), (q_1, .inl (cA_2, 6, .inl f_6))] H := hP
  have hD : va_D A [(h0, .inr (9, [.ref q_1])), (q_1, .inl (cA_2, 6, .inl f_6))] := hD
  refine lv_iinc (v := 2) (lv' := [(1, .int 2), (0, .ref h0)]) hx hb dX4_init_30 hl (k := 0) rfl (by decide) (by decide) rfl (fun ls hl => ?_)
  refine lv_goto (tgt := 14) hx hb dX4_init_33 (by decide) ?_
  refine lv_iload_n hx hb dX4_init_14 rfl (lv_at hl 0 rfl) ?_
  refine lv_aload_n hx hb dX4_init_15 rfl (lv_at hl 1 rfl) ?_
  refine va_get (D := (dC, dI)) (ci := 9) (v := .ref q_1) (C := RX4) (T := TX4) (N := 1) hx hb hts u_c_Shaft_init_X4 hown hK hP 0 rfl rfl 0 (by decide) (hts (.fieldLink RX4 9 "HotelOfBells$Shaft" "doors" "[I") (List.mem_of_getElem? (i := 5) rfl)) (fun _ h9 => h9) rfl dX4_init_16 ?_
  refine va_alen (v := 6) hx hb hK hP 1 0 rfl rfl rfl dX4_init_19 ?_
  refine lv_icmp_ge (tgt := 36) hx hb dX4_init_20 (by decide) (fun c_7 => absurd c_7 (by decide)) (fun _ => ?_)
  refine lv_aload_n hx hb dX4_init_23 rfl (lv_at hl 1 rfl) ?_
  refine va_get (D := (dC, dI)) (ci := 9) (v := .ref q_1) (C := RX4) (T := TX4) (N := 1) hx hb hts u_c_Shaft_init_X4 hown hK hP 0 rfl rfl 0 (by decide) (hts (.fieldLink RX4 9 "HotelOfBells$Shaft" "doors" "[I") (List.mem_of_getElem? (i := 5) rfl)) (fun _ h9 => h9) rfl dX4_init_24 ?_
  refine lv_iload_n hx hb dX4_init_27 rfl (lv_at hl 0 rfl) ?_
  refine lv_iconst (v := (-1)) hx hb dX4_init_28 (by decide) ?_
  refine va_iast hx hb hK hP hD hS 1 0 rfl rfl (by unfold vp_in; decide) dX4_init_29 (fun H locs hP hD hS => ?_)
  obtain ⟨f_8, ef_8⟩ : ∃ z, z = upd f_6 (2 : Int32).toNatClampNeg (-1) := ⟨_, rfl⟩
  rw [← ef_8] at hP hD
  have hP : va_P (dC, dI) vwCl [(h0, .inr (9, [.ref q_1])), (q_1, .inl (cA_2, 6, .inl f_8))] H := hP
  have hD : va_D A [(h0, .inr (9, [.ref q_1])), (q_1, .inl (cA_2, 6, .inl f_8))] := hD
  refine lv_iinc (v := 3) (lv' := [(1, .int 3), (0, .ref h0)]) hx hb dX4_init_30 hl (k := 0) rfl (by decide) (by decide) rfl (fun ls hl => ?_)
  refine lv_goto (tgt := 14) hx hb dX4_init_33 (by decide) ?_
  refine lv_iload_n hx hb dX4_init_14 rfl (lv_at hl 0 rfl) ?_
  refine lv_aload_n hx hb dX4_init_15 rfl (lv_at hl 1 rfl) ?_
  refine va_get (D := (dC, dI)) (ci := 9) (v := .ref q_1) (C := RX4) (T := TX4) (N := 1) hx hb hts u_c_Shaft_init_X4 hown hK hP 0 rfl rfl 0 (by decide) (hts (.fieldLink RX4 9 "HotelOfBells$Shaft" "doors" "[I") (List.mem_of_getElem? (i := 5) rfl)) (fun _ h9 => h9) rfl dX4_init_16 ?_
  refine va_alen (v := 6) hx hb hK hP 1 0 rfl rfl rfl dX4_init_19 ?_
  refine lv_icmp_ge (tgt := 36) hx hb dX4_init_20 (by decide) (fun c_9 => absurd c_9 (by decide)) (fun _ => ?_)
  refine lv_aload_n hx hb dX4_init_23 rfl (lv_at hl 1 rfl) ?_
  refine va_get (D := (dC, dI)) (ci := 9) (v := .ref q_1) (C := RX4) (T := TX4) (N := 1) hx hb hts u_c_Shaft_init_X4 hown hK hP 0 rfl rfl 0 (by decide) (hts (.fieldLink RX4 9 "HotelOfBells$Shaft" "doors" "[I") (List.mem_of_getElem? (i := 5) rfl)) (fun _ h9 => h9) rfl dX4_init_24 ?_
  refine lv_iload_n hx hb dX4_init_27 rfl (lv_at hl 0 rfl) ?_
  refine lv_iconst (v := (-1)) hx hb dX4_init_28 (by decide) ?_
  refine va_iast hx hb hK hP hD hS 1 0 rfl rfl (by unfold vp_in; decide) dX4_init_29 (fun H locs hP hD hS => ?_)
  obtain ⟨f_10, ef_10⟩ : ∃ z, z = upd f_8 (3 : Int32).toNatClampNeg (-1) := ⟨_, rfl⟩
  rw [← ef_10] at hP hD
  have hP : va_P (dC, dI) vwCl [(h0, .inr (9, [.ref q_1])), (q_1, .inl (cA_2, 6, .inl f_10))] H := hP
  have hD : va_D A [(h0, .inr (9, [.ref q_1])), (q_1, .inl (cA_2, 6, .inl f_10))] := hD
  refine lv_iinc (v := 4) (lv' := [(1, .int 4), (0, .ref h0)]) hx hb dX4_init_30 hl (k := 0) rfl (by decide) (by decide) rfl (fun ls hl => ?_)
  refine lv_goto (tgt := 14) hx hb dX4_init_33 (by decide) ?_
  refine lv_iload_n hx hb dX4_init_14 rfl (lv_at hl 0 rfl) ?_
  refine lv_aload_n hx hb dX4_init_15 rfl (lv_at hl 1 rfl) ?_
  refine va_get (D := (dC, dI)) (ci := 9) (v := .ref q_1) (C := RX4) (T := TX4) (N := 1) hx hb hts u_c_Shaft_init_X4 hown hK hP 0 rfl rfl 0 (by decide) (hts (.fieldLink RX4 9 "HotelOfBells$Shaft" "doors" "[I") (List.mem_of_getElem? (i := 5) rfl)) (fun _ h9 => h9) rfl dX4_init_16 ?_
  refine va_alen (v := 6) hx hb hK hP 1 0 rfl rfl rfl dX4_init_19 ?_
  refine lv_icmp_ge (tgt := 36) hx hb dX4_init_20 (by decide) (fun c_11 => absurd c_11 (by decide)) (fun _ => ?_)
  refine lv_aload_n hx hb dX4_init_23 rfl (lv_at hl 1 rfl) ?_
  refine va_get (D := (dC, dI)) (ci := 9) (v := .ref q_1) (C := RX4) (T := TX4) (N := 1) hx hb hts u_c_Shaft_init_X4 hown hK hP 0 rfl rfl 0 (by decide) (hts (.fieldLink RX4 9 "HotelOfBells$Shaft" "doors" "[I") (List.mem_of_getElem? (i := 5) rfl)) (fun _ h9 => h9) rfl dX4_init_24 ?_
  refine lv_iload_n hx hb dX4_init_27 rfl (lv_at hl 0 rfl) ?_
  refine lv_iconst (v := (-1)) hx hb dX4_init_28 (by decide) ?_
  refine va_iast hx hb hK hP hD hS 1 0 rfl rfl (by unfold vp_in; decide) dX4_init_29 (fun H locs hP hD hS => ?_)
  obtain ⟨f_12, ef_12⟩ : ∃ z, z = upd f_10 (4 : Int32).toNatClampNeg (-1) := ⟨_, rfl⟩
  rw [← ef_12] at hP hD
  have hP : va_P (dC, dI) vwCl [(h0, .inr (9, [.ref q_1])), (q_1, .inl (cA_2, 6, .inl f_12))] H := hP
  have hD : va_D A [(h0, .inr (9, [.ref q_1])), (q_1, .inl (cA_2, 6, .inl f_12))] := hD
  refine lv_iinc (v := 5) (lv' := [(1, .int 5), (0, .ref h0)]) hx hb dX4_init_30 hl (k := 0) rfl (by decide) (by decide) rfl (fun ls hl => ?_)
  refine lv_goto (tgt := 14) hx hb dX4_init_33 (by decide) ?_
  refine lv_iload_n hx hb dX4_init_14 rfl (lv_at hl 0 rfl) ?_
  refine lv_aload_n hx hb dX4_init_15 rfl (lv_at hl 1 rfl) ?_
  refine va_get (D := (dC, dI)) (ci := 9) (v := .ref q_1) (C := RX4) (T := TX4) (N := 1) hx hb hts u_c_Shaft_init_X4 hown hK hP 0 rfl rfl 0 (by decide) (hts (.fieldLink RX4 9 "HotelOfBells$Shaft" "doors" "[I") (List.mem_of_getElem? (i := 5) rfl)) (fun _ h9 => h9) rfl dX4_init_16 ?_
  refine va_alen (v := 6) hx hb hK hP 1 0 rfl rfl rfl dX4_init_19 ?_
  refine lv_icmp_ge (tgt := 36) hx hb dX4_init_20 (by decide) (fun c_13 => absurd c_13 (by decide)) (fun _ => ?_)
  refine lv_aload_n hx hb dX4_init_23 rfl (lv_at hl 1 rfl) ?_
  refine va_get (D := (dC, dI)) (ci := 9) (v := .ref q_1) (C := RX4) (T := TX4) (N := 1) hx hb hts u_c_Shaft_init_X4 hown hK hP 0 rfl rfl 0 (by decide) (hts (.fieldLink RX4 9 "HotelOfBells$Shaft" "doors" "[I") (List.mem_of_getElem? (i := 5) rfl)) (fun _ h9 => h9) rfl dX4_init_24 ?_
  refine lv_iload_n hx hb dX4_init_27 rfl (lv_at hl 0 rfl) ?_
  refine lv_iconst (v := (-1)) hx hb dX4_init_28 (by decide) ?_
  refine va_iast hx hb hK hP hD hS 1 0 rfl rfl (by unfold vp_in; decide) dX4_init_29 (fun H locs hP hD hS => ?_)
  obtain ⟨f_14, ef_14⟩ : ∃ z, z = upd f_12 (5 : Int32).toNatClampNeg (-1) := ⟨_, rfl⟩
  rw [← ef_14] at hP hD
  have hP : va_P (dC, dI) vwCl [(h0, .inr (9, [.ref q_1])), (q_1, .inl (cA_2, 6, .inl f_14))] H := hP
  have hD : va_D A [(h0, .inr (9, [.ref q_1])), (q_1, .inl (cA_2, 6, .inl f_14))] := hD
  refine lv_iinc (v := 6) (lv' := [(1, .int 6), (0, .ref h0)]) hx hb dX4_init_30 hl (k := 0) rfl (by decide) (by decide) rfl (fun ls hl => ?_)
  refine lv_goto (tgt := 14) hx hb dX4_init_33 (by decide) ?_
  refine lv_iload_n hx hb dX4_init_14 rfl (lv_at hl 0 rfl) ?_
  refine lv_aload_n hx hb dX4_init_15 rfl (lv_at hl 1 rfl) ?_
  refine va_get (D := (dC, dI)) (ci := 9) (v := .ref q_1) (C := RX4) (T := TX4) (N := 1) hx hb hts u_c_Shaft_init_X4 hown hK hP 0 rfl rfl 0 (by decide) (hts (.fieldLink RX4 9 "HotelOfBells$Shaft" "doors" "[I") (List.mem_of_getElem? (i := 5) rfl)) (fun _ h9 => h9) rfl dX4_init_16 ?_
  refine va_alen (v := 6) hx hb hK hP 1 0 rfl rfl rfl dX4_init_19 ?_
  refine lv_icmp_ge (tgt := 36) hx hb dX4_init_20 (by decide) (fun _ => ?_) (fun c_15 => absurd (by decide) c_15)
  have hP9 := hP.sub (ws' := [(h0, .inr (9, [.ref q_1])), (q_1, .inl (cA_2, 6, .inl f_14))]) [0, 1] rfl
  have hD9 := hD.sub (ws' := [(h0, .inr (9, [.ref q_1])), (q_1, .inl (cA_2, 6, .inl f_14))]) [0, 1] (by decide) rfl
  have hK9 := hK.sub (tys' := [(cA_2, .int)]) [0] rfl
  exact W.vret hx hb hr (fun t ht hW => ⟨⟨(), rfl, trivial, q_1, cA_2, f_14, by rw [ht]; exact hP9, va_K.moved hW.alike hK9, hD9⟩, hS.F ht⟩) hS.2.2 dX4_init_36
def v_c_addFloor_t : List Cond := .code yX5_addFloor cX5_addFloor 2 (some .int) :: ([Cond.fieldLink RX5 10 "HotelOfBells" "floors" "Ljava/util/ArrayList;", Cond.code yJx4a65c_size_8abf5 cJx4a65c_size_8abf5 1 (some .int), Cond.fieldLink RJx4a65c 48 "java/util/ArrayList" "size" "I", Cond.methodLink RX5 49 yJx4a65c_size_8abf5, Cond.instanceMethod yJx4a65c_size_8abf5, Cond.selects RJx4a65c yJx4a65c_size_8abf5 yJx4a65c_size_8abf5, Cond.initialized RJx4a65c, Cond.classLink RX5 58 RX1, Cond.instantiable RX1 4, Cond.initialized RX1, Cond.code yX1_init cX1_init 2 none, Cond.methodLink RX1 1 objectInit, Cond.instanceMethod objectInit, Cond.code objectInit ⟨#[0xb1]⟩ 1 none, Cond.fieldLink RX1 7 "HotelOfBells$Floor" "tune" "I", Cond.fieldLink RX1 13 "HotelOfBells$Floor" "span" "I", Cond.fieldLink RX1 16 "HotelOfBells$Floor" "rooms" "I", Cond.methodLink RX5 60 yX1_init, Cond.instanceMethod yX1_init, Cond.code yJx4a65c_add_9ea2d cJx4a65c_add_9ea2d 2 (some .boolean), Cond.fieldLink RJx4a65c 63 "java/util/ArrayList" "modCount" "I", Cond.sameField "java/util/ArrayList" "java/util/AbstractList" "modCount" "I", Cond.fieldLink RJx4a65c 9 "java/util/ArrayList" "elementData" "[Ljava/lang/Object;", Cond.code yJx4a65c_add_72be8 cJx4a65c_add_72be8 4 none, Cond.code yJx4a65c_grow_d5877 cJx4a65c_grow_d5877 1 (some (.array (.object "java/lang/Object"))), Cond.code yJx4a65c_grow_92f84 cJx4a65c_grow_92f84 4 (some (.array (.object "java/lang/Object"))), Cond.fieldLink RJx4a65c 39 "java/util/ArrayList" "DEFAULTCAPACITY_EMPTY_ELEMENTDATA" "[Ljava/lang/Object;", Cond.methodLink RJx4a65c 79 Lib.Math.max.name, Cond.static Lib.Math.max.name, Cond.initialized "java/lang/Math", Cond.code Lib.Math.max.name Lib.Math.max.code 2 (some .int), Cond.classLink RJx4a65c 7 "java/lang/Object", Cond.methodLink RJx4a65c 69 yJx4a65c_grow_92f84, Cond.instanceMethod yJx4a65c_grow_92f84, Cond.selects RJx4a65c yJx4a65c_grow_92f84 yJx4a65c_grow_92f84, Cond.methodLink RJx4a65c 129 yJx4a65c_grow_d5877, Cond.instanceMethod yJx4a65c_grow_d5877, Cond.selects RJx4a65c yJx4a65c_grow_d5877 yJx4a65c_grow_d5877, Cond.methodLink RJx4a65c 131 yJx4a65c_add_72be8, Cond.instanceMethod yJx4a65c_add_72be8, Cond.selects RJx4a65c yJx4a65c_add_72be8 yJx4a65c_add_72be8, Cond.methodLink RX5 63 yJx4a65c_add_9ea2d, Cond.instanceMethod yJx4a65c_add_9ea2d, Cond.selects RJx4a65c yJx4a65c_add_9ea2d yJx4a65c_add_9ea2d] ++ (wsX50 ++ (wsJx4a65c0 ++ (wsX10 ++ []))))
theorem u_c_addFloor_t_X5 : ∀ w ∈ wsX50, w ∈ v_c_addFloor_t := fun _ h => List.mem_cons_of_mem _ (List.mem_append_right _ (List.mem_append_left _ h))
theorem u_c_addFloor_t_Jx4a65c : ∀ w ∈ wsJx4a65c0, w ∈ v_c_addFloor_t := fun _ h => List.mem_cons_of_mem _ (List.mem_append_right _ (List.mem_append_right _ (List.mem_append_left _ h)))
theorem u_c_addFloor_t_X1 : ∀ w ∈ wsX10, w ∈ v_c_addFloor_t := fun _ h => List.mem_cons_of_mem _ (List.mem_append_right _ (List.mem_append_right _ (List.mem_append_right _ (List.mem_append_left _ h))))
theorem gg_c_addFloor_t_c_AL_size : GoodIn v_c_addFloor_t v_c_AL_size := goodIn_r _ [2, 3, 54, 55, 56] (by rfl) (by decide +kernel)
theorem gg_c_addFloor_t_c_Floor_init : GoodIn v_c_addFloor_t v_c_Floor_init := goodIn_r _ [11, 12, 13, 14, 15, 16, 17, 57, 58, 59, 60] (by rfl) (by decide +kernel)
theorem gg_c_addFloor_t_c_AL_add_Floor : GoodIn v_c_addFloor_t v_c_AL_add_Floor := goodIn_r _ [20, 21, 22, 23, 3, 24, 25, 26, 27, 28, 29, 30, 31, 32, 33, 34, 35, 7, 36, 37, 38, 39, 40, 41, 54, 55, 56] (by rfl) (by decide +kernel)
set_option maxHeartbeats 4000000 in
set_option maxRecDepth 100000 in
theorem c_addFloor_t (l : Launch) (hl9 : l.stackTraces = false) (dC : Nat → ClassId) (dI : Nat → Nat → Nat) (tE : Nat) (h0 : Nat) (fq : Nat) (sq : Nat) (gq : Nat) (nq : Nat) (dq : Nat) (pq : Nat) (pl : Int32) (bl : Int32) (tb : Int32) (mc_fq : Int32) (p0 : Int32) (sz : Nat) (h1 : ¬ p0 < 3) (h2 : ¬ 12 < p0) : Met l yX5_addFloor v_c_addFloor_t ({ frames := 5, cells := 2, slots := 14, locals := 101 }) (va_Pc [.ref h0, .int p0] (Pre0 dC dI tE sz [] [(h0, .inr (10, [.ref fq, .ref sq, .ref gq, .ref nq, .ref dq, .ref pq, .int pl, .int bl, .int tb])), (fq, .inr (4, [.int mc_fq, .ref tE, .int 0]))])) (va_Qi (fun (r : Int32) (_ : Unit) => r = 0) (fun _ t => ∃ (vx0 : Int32), ∃ (qd1 : Nat), Pst dC dI [] (va_A [(h0, .inr (10, [.ref fq, .ref sq, .ref gq, .ref nq, .ref dq, .ref pq, .int pl, .int bl, .int tb])), (fq, .inr (4, [.int mc_fq, .ref tE, .int 0]))] sz) [(h0, .inr (10, [.ref fq, .ref sq, .ref gq, .ref nq, .ref dq, .ref pq, .int pl, .int bl, .int tb])), (fq, .inr (4, [.int vx0, .ref qd1, .int 1]))] t) (va_A [(h0, .inr (10, [.ref fq, .ref sq, .ref gq, .ref nq, .ref dq, .ref pq, .int pl, .int bl, .int tb])), (fq, .inr (4, [.int mc_fq, .ref tE, .int 0]))] sz)) 2 14 (va_A [(h0, .inr (10, [.ref fq, .ref sq, .ref gq, .ref nq, .ref dq, .ref pq, .int pl, .int bl, .int tb])), (fq, .inr (4, [.int mc_fq, .ref tE, .int 0]))] sz) := by
  refine Met.ofW (cc := cX5_addFloor) (maxL := 2) (ret := (some .int)) (by decide) rfl ?_
  intro p e s m args below meth c s₁ B hml hv
  obtain ⟨rfl, hsz, hP, hK, hD0, hT⟩ := hv
  have hx := B.exec
  have hb := B.bytes
  have hr := B.returns
  have hts := atoms_spec (ws := v_c_addFloor_t) B.pre
  have hown : s.vm.findClass RX5 = some m.cls := findClass_of_methodNamed B.named
  have hlocks := B.notSynchronized
  subst hsz
  have hD := hD0.self (sz := s.heap.size)
  generalize hAe : va_A [(h0, .inr (10, [.ref fq, .ref sq, .ref gq, .ref nq, .ref dq, .ref pq, .int pl, .int bl, .int tb])), (fq, .inr (4, [.int mc_fq, .ref tE, .int 0]))] s.heap.size = A at hD hT ⊢
  have hA : ∀ q : Nat, s.heap.size ≤ q → A q := fun q h => by rw [← hAe]; exact Or.inr h
  have hS : va_S A s.heap s.heap [] := va_S.rf
  have hl := lv_entry ([.ref h0, .int p0]) (n := 2) (Nat.le_of_ble_eq_true rfl)
  rw [lg_entry_eq]
  generalize (lg_sl ([.ref h0, .int p0]) ++ List.replicate (2 - (lg_sl ([.ref h0, .int p0])).length) Slot.unset).toArray = ls at hl ⊢
  have hl : lv_has ls 2 [(0, .ref h0), (1, .int p0)] := hl
  refine lv_iload_n hx hb dX5_addFloor_0 rfl (lv_at hl 1 rfl) ?_
  refine lv_iconst (v := 3) hx hb dX5_addFloor_1 (by decide) ?_
  refine lv_icmp_lt (tgt := 11) hx hb dX5_addFloor_2 (by decide) (fun c_1 => absurd c_1 h1) (fun _ => ?_)
  refine lv_iload_n hx hb dX5_addFloor_5 rfl (lv_at hl 1 rfl) ?_
  refine lv_bipush (v := 12) hx hb dX5_addFloor_6 (by decide) ?_
  refine lv_icmp_le (tgt := 21) hx hb dX5_addFloor_8 (by decide) (fun _ => ?_) (fun c_2 => absurd (Int32.not_lt.mp h2) c_2)
  refine lv_aload_n hx hb dX5_addFloor_21 rfl (lv_at hl 0 rfl) ?_
  refine va_get (D := (dC, dI)) (ci := 10) (v := .ref fq) (C := RX5) (T := TX5) (N := 9) hx hb hts u_c_addFloor_t_X5 hown hK hP 0 rfl rfl 0 (by decide) (hts (.fieldLink RX5 10 "HotelOfBells" "floors" "Ljava/util/ArrayList;") (List.mem_of_getElem? (i := 1) rfl)) (fun _ h9 => h9) rfl dX5_addFloor_22 ?_
  have hPc := hP.sub (ws' := [(fq, .inr (4, [.int mc_fq, .ref tE, .int 0]))]) [1] rfl
  have hDc := hD.sub (ws' := [(fq, .inr (4, [.int mc_fq, .ref tE, .int 0]))]) [1] (by decide) rfl
  have hKc := hK.sub (tys' := []) [] rfl
  have hFc := va_free (wc := [(fq, .inr (4, [.int mc_fq, .ref tE, .int 0]))]) hD hS hA [1] rfl
  refine va_calli (va_runV (As := []) (rest := []) ⟨hx, hb, hml, hown, hts⟩ (c_AL_size l hl9 dC dI tE fq mc_fq 0 (.ref tE) _ ) (cwV 0 hts (goodIn_app (goodIn_r _ [4, 5, 6, 7] (by rfl) (by decide +kernel)) gg_c_addFloor_t_c_AL_size) rfl rfl rfl (by decide +kernel) ⟨Nat.le_of_ble_eq_true rfl, Nat.le_of_ble_eq_true rfl⟩) ⟨Pre0.blind, va_recv hKc hPc (ci := 4) (q0 := 0) rfl rfl, Pre0.give hPc hKc hDc hT hS hFc⟩ rfl rfl hl.1 rfl (lv_room (Nat.le_of_ble_eq_true rfl)) dX5_addFloor_25 ⟨Nat.le_of_ble_eq_true rfl, Nat.le_of_ble_eq_true rfl⟩) hS (fun q _ h => hFc q h) hFc (fun r_3 u t H1 locs ht hvm hw hB hz1 hk1 hS => ?_)
  obtain ⟨hP1, hK1, hD1⟩ := hB
  rw [ht] at hP1
  have hK1 := va_K.moved hvm.symm hK1
  obtain ⟨hP, hD⟩ := va_join (wr := [(h0, .inr (10, [.ref fq, .ref sq, .ref gq, .ref nq, .ref dq, .ref pq, .int pl, .int bl, .int tb]))]) (w1 := [(fq, .inr (4, [.int mc_fq, .ref tE, .int 0]))]) hP hD [1] [0] rfl rfl (by decide) (by decide) hk1 hFc hP1 hD1
  generalize H1 = H at hP hS ⊢
  have hP : va_P (dC, dI) vwCl [(h0, .inr (10, [.ref fq, .ref sq, .ref gq, .ref nq, .ref dq, .ref pq, .int pl, .int bl, .int tb])), (fq, .inr (4, [.int mc_fq, .ref tE, .int 0]))] H := hP
  have hD : va_D A [(h0, .inr (10, [.ref fq, .ref sq, .ref gq, .ref nq, .ref dq, .ref pq, .int pl, .int bl, .int tb])), (fq, .inr (4, [.int mc_fq, .ref tE, .int 0]))] := hD
  refine W.widen (k := 0) (n := 0) (by omega) (by omega) ?_
  obtain rfl : r_3 = 0 := hw
  refine lv_bipush (v := 6) hx hb dX5_addFloor_28 (by decide) ?_
  refine lv_icmp_lt (tgt := 43) hx hb dX5_addFloor_30 (by decide) (fun _ => ?_) (fun c_4 => absurd (by decide) c_4)
  refine lv_aload_n hx hb dX5_addFloor_43 rfl (lv_at hl 0 rfl) ?_
  refine va_get (D := (dC, dI)) (ci := 10) (v := .ref fq) (C := RX5) (T := TX5) (N := 9) hx hb hts u_c_addFloor_t_X5 hown hK hP 0 rfl rfl 0 (by decide) (hts (.fieldLink RX5 10 "HotelOfBells" "floors" "Ljava/util/ArrayList;") (List.mem_of_getElem? (i := 1) rfl)) (fun _ h9 => h9) rfl dX5_addFloor_44 ?_
  refine va_new (ci := 6) (fs := [.int 0, .int 0, .int 0, .int 0]) (C := RX1) (T := TX1) (N := 4) hx hb hts u_c_addFloor_t_X1 tyX1 tyX1_ok hown (hts (.classLink RX5 58 RX1) (List.mem_of_getElem? (i := 8) rfl)) (hts (.instantiable RX1 4) (List.mem_of_getElem? (i := 9) rfl)) (hts (.initialized RX1) (List.mem_of_getElem? (i := 10) rfl)) hK hP hD hS hA rfl (fun j hj => by rcases (show j = 0 ∨ j = 1 ∨ j = 2 ∨ j = 3 by omega) with rfl | rfl | rfl | rfl <;> rfl) (Nat.le_of_ble_eq_true rfl) (Nat.le_of_ble_eq_true rfl) dX5_addFloor_47 (fun q_5 H hP hD hS => ?_)
  have hP : va_P (dC, dI) vwCl [(h0, .inr (10, [.ref fq, .ref sq, .ref gq, .ref nq, .ref dq, .ref pq, .int pl, .int bl, .int tb])), (fq, .inr (4, [.int mc_fq, .ref tE, .int 0])), (q_5, .inr (6, [.int 0, .int 0, .int 0, .int 0]))] H := hP
  have hD : va_D A [(h0, .inr (10, [.ref fq, .ref sq, .ref gq, .ref nq, .ref dq, .ref pq, .int pl, .int bl, .int tb])), (fq, .inr (4, [.int mc_fq, .ref tE, .int 0])), (q_5, .inr (6, [.int 0, .int 0, .int 0, .int 0]))] := hD
  refine W.widen (k := 1) (n := 4) (by omega) (by omega) ?_
  refine lv_dup hx hb dX5_addFloor_50 rfl ?_
  refine lv_iload_n hx hb dX5_addFloor_51 rfl (lv_at hl 1 rfl) ?_
  have hPc := hP.sub (ws' := [(q_5, .inr (6, [.int 0, .int 0, .int 0, .int 0]))]) [2] rfl
  have hDc := hD.sub (ws' := [(q_5, .inr (6, [.int 0, .int 0, .int 0, .int 0]))]) [2] (by decide) rfl
  have hKc := hK.sub (tys' := []) [] rfl
  have hFc := va_free (wc := [(q_5, .inr (6, [.int 0, .int 0, .int 0, .int 0]))]) hD hS hA [2] rfl
  refine va_callv (va_runI (As := [.int p0]) (rest := [.ref q_5, .ref fq]) ⟨hx, hb, hml, hown, hts⟩ (c_Floor_init l hl9 dC dI tE q_5 p0 _ ) (cwI 1 hts gg_c_addFloor_t_c_Floor_init rfl rfl rfl (hts (.initialized RX1) (List.mem_of_getElem? (i := 10) rfl)) (hts (.methodLink RX5 60 yX1_init) (List.mem_of_getElem? (i := 18) rfl)) (hts (.instanceMethod yX1_init) (List.mem_of_getElem? (i := 19) rfl)) rfl (by decide +kernel) ⟨Nat.le_of_ble_eq_true rfl, Nat.le_of_ble_eq_true rfl⟩) ⟨Pre0.blind, Pre0.give hPc hKc hDc hT hS hFc⟩ rfl rfl hl.1 rfl (lv_room (Nat.le_of_ble_eq_true rfl)) dX5_addFloor_52 ⟨Nat.le_of_ble_eq_true rfl, Nat.le_of_ble_eq_true rfl⟩) hS (fun q _ h => hFc q h) hFc (fun u t H1 locs ht hvm hw hB hz1 hk1 hS => ?_)
  obtain ⟨hP1, hK1, hD1⟩ := hB
  rw [ht] at hP1
  have hK1 := va_K.moved hvm.symm hK1
  obtain ⟨hP, hD⟩ := va_join (wr := [(h0, .inr (10, [.ref fq, .ref sq, .ref gq, .ref nq, .ref dq, .ref pq, .int pl, .int bl, .int tb])), (fq, .inr (4, [.int mc_fq, .ref tE, .int 0]))]) (w1 := [(q_5, .inr (6, [.int p0, .int 1, .int 10, .int 0]))]) hP hD [2] [0, 1] rfl rfl (by decide) (by decide) hk1 hFc hP1 hD1
  generalize H1 = H at hP hS ⊢
  have hP : va_P (dC, dI) vwCl [(h0, .inr (10, [.ref fq, .ref sq, .ref gq, .ref nq, .ref dq, .ref pq, .int pl, .int bl, .int tb])), (fq, .inr (4, [.int mc_fq, .ref tE, .int 0])), (q_5, .inr (6, [.int p0, .int 1, .int 10, .int 0]))] H := hP
  have hD : va_D A [(h0, .inr (10, [.ref fq, .ref sq, .ref gq, .ref nq, .ref dq, .ref pq, .int pl, .int bl, .int tb])), (fq, .inr (4, [.int mc_fq, .ref tE, .int 0])), (q_5, .inr (6, [.int p0, .int 1, .int 10, .int 0]))] := hD
  refine W.widen (k := 1) (n := 4) (by omega) (by omega) ?_
  have hPc := hP.sub (ws' := [(fq, .inr (4, [.int mc_fq, .ref tE, .int 0])), (q_5, .inr (6, [.int p0, .int 1, .int 10, .int 0]))]) [1, 2] rfl
  have hDc := hD.sub (ws' := [(fq, .inr (4, [.int mc_fq, .ref tE, .int 0])), (q_5, .inr (6, [.int p0, .int 1, .int 10, .int 0]))]) [1, 2] (by decide) rfl
  have hKc := hK.sub (tys' := []) [] rfl
  have hFc := va_free (wc := [(fq, .inr (4, [.int mc_fq, .ref tE, .int 0])), (q_5, .inr (6, [.int p0, .int 1, .int 10, .int 0]))]) hD hS hA [1, 2] rfl
  refine va_calli (va_runV (As := [.ref q_5]) (rest := []) ⟨hx, hb, hml, hown, hts⟩ (c_AL_add_Floor l hl9 dC dI tE fq q_5 p0 1 10 0 mc_fq _ ) (cwV 1 hts (goodIn_app (goodIn_r _ [42, 43, 44, 7] (by rfl) (by decide +kernel)) gg_c_addFloor_t_c_AL_add_Floor) rfl rfl rfl (by decide +kernel) ⟨Nat.le_of_ble_eq_true rfl, Nat.le_of_ble_eq_true rfl⟩) ⟨Pre0.blind, va_recv hKc hPc (ci := 4) (q0 := 0) rfl rfl, Pre0.give hPc hKc hDc hT hS hFc⟩ rfl rfl hl.1 rfl (lv_room (Nat.le_of_ble_eq_true rfl)) dX5_addFloor_55 ⟨Nat.le_of_ble_eq_true rfl, Nat.le_of_ble_eq_true rfl⟩) hS (fun q _ h => hFc q h) hFc (fun r_7 u t H1 locs ht hvm hw hB hz1 hk1 hS => ?_)
  obtain ⟨qx_8, cx_9, vx_10, fx_11, hP1, hK1, hD1⟩ := hB
  rw [ht] at hP1
  have hK1 := va_K.moved hvm.symm hK1
  obtain ⟨hP, hD⟩ := va_join (wr := [(h0, .inr (10, [.ref fq, .ref sq, .ref gq, .ref nq, .ref dq, .ref pq, .int pl, .int bl, .int tb]))]) (w1 := [(q_5, .inr (6, [.int p0, .int 1, .int 10, .int 0])), (fq, .inr (4, [.int vx_10, .ref qx_8, .int 1])), (qx_8, .inl (cx_9, 10, .inr (.inr (.inr (.inr fx_11)))))]) hP hD [1, 2] [0] rfl rfl (by decide) (by decide) hk1 hFc hP1 hD1
  have hK := hK.app (hK1.sub (tys' := [(cx_9, .object "java/lang/Object")]) [0] rfl)
  have hK : va_K (dC, dI) vwCl [(cx_9, .object "java/lang/Object")] s := hK
  generalize H1 = H at hP hS ⊢
  have hP : va_P (dC, dI) vwCl [(h0, .inr (10, [.ref fq, .ref sq, .ref gq, .ref nq, .ref dq, .ref pq, .int pl, .int bl, .int tb])), (q_5, .inr (6, [.int p0, .int 1, .int 10, .int 0])), (fq, .inr (4, [.int vx_10, .ref qx_8, .int 1])), (qx_8, .inl (cx_9, 10, .inr (.inr (.inr (.inr fx_11)))))] H := hP
  have hD : va_D A [(h0, .inr (10, [.ref fq, .ref sq, .ref gq, .ref nq, .ref dq, .ref pq, .int pl, .int bl, .int tb])), (q_5, .inr (6, [.int p0, .int 1, .int 10, .int 0])), (fq, .inr (4, [.int vx_10, .ref qx_8, .int 1])), (qx_8, .inl (cx_9, 10, .inr (.inr (.inr (.inr fx_11)))))] := hD
  refine W.widen (k := 2) (n := 14) (by omega) (by omega) ?_
  obtain rfl : r_7 = 1 := hw
  refine lv_pop hx hb dX5_addFloor_58 rfl ?_
  refine lv_aload_n hx hb dX5_addFloor_59 rfl (lv_at hl 0 rfl) ?_
  refine va_get (D := (dC, dI)) (ci := 10) (v := .ref fq) (C := RX5) (T := TX5) (N := 9) hx hb hts u_c_addFloor_t_X5 hown hK hP 0 rfl rfl 0 (by decide) (hts (.fieldLink RX5 10 "HotelOfBells" "floors" "Ljava/util/ArrayList;") (List.mem_of_getElem? (i := 1) rfl)) (fun _ h9 => h9) rfl dX5_addFloor_60 ?_
  have hPc := hP.sub (ws' := [(fq, .inr (4, [.int vx_10, .ref qx_8, .int 1]))]) [2] rfl
  have hDc := hD.sub (ws' := [(fq, .inr (4, [.int vx_10, .ref qx_8, .int 1]))]) [2] (by decide) rfl
  have hKc := hK.sub (tys' := []) [] rfl
  have hFc := va_free (wc := [(fq, .inr (4, [.int vx_10, .ref qx_8, .int 1]))]) hD hS hA [2] rfl
  refine va_calli (va_runV (As := []) (rest := []) ⟨hx, hb, hml, hown, hts⟩ (c_AL_size l hl9 dC dI tE fq vx_10 1 (.ref qx_8) _ ) (cwV 0 hts (goodIn_app (goodIn_r _ [4, 5, 6, 7] (by rfl) (by decide +kernel)) gg_c_addFloor_t_c_AL_size) rfl rfl rfl (by decide +kernel) ⟨Nat.le_of_ble_eq_true rfl, Nat.le_of_ble_eq_true rfl⟩) ⟨Pre0.blind, va_recv hKc hPc (ci := 4) (q0 := 0) rfl rfl, Pre0.give hPc hKc hDc hT hS hFc⟩ rfl rfl hl.1 rfl (lv_room (Nat.le_of_ble_eq_true rfl)) dX5_addFloor_63 ⟨Nat.le_of_ble_eq_true rfl, Nat.le_of_ble_eq_true rfl⟩) hS (fun q _ h => hFc q h) hFc (fun r_12 u t H1 locs ht hvm hw hB hz1 hk1 hS => ?_)
  obtain ⟨hP1, hK1, hD1⟩ := hB
  rw [ht] at hP1
  have hK1 := va_K.moved hvm.symm hK1
  obtain ⟨hP, hD⟩ := va_join (wr := [(h0, .inr (10, [.ref fq, .ref sq, .ref gq, .ref nq, .ref dq, .ref pq, .int pl, .int bl, .int tb])), (q_5, .inr (6, [.int p0, .int 1, .int 10, .int 0])), (qx_8, .inl (cx_9, 10, .inr (.inr (.inr (.inr fx_11)))))]) (w1 := [(fq, .inr (4, [.int vx_10, .ref qx_8, .int 1]))]) hP hD [2] [0, 1, 3] rfl rfl (by decide) (by decide) hk1 hFc hP1 hD1
  generalize H1 = H at hP hS ⊢
  have hP : va_P (dC, dI) vwCl [(h0, .inr (10, [.ref fq, .ref sq, .ref gq, .ref nq, .ref dq, .ref pq, .int pl, .int bl, .int tb])), (q_5, .inr (6, [.int p0, .int 1, .int 10, .int 0])), (qx_8, .inl (cx_9, 10, .inr (.inr (.inr (.inr fx_11))))), (fq, .inr (4, [.int vx_10, .ref qx_8, .int 1]))] H := hP
  have hD : va_D A [(h0, .inr (10, [.ref fq, .ref sq, .ref gq, .ref nq, .ref dq, .ref pq, .int pl, .int bl, .int tb])), (q_5, .inr (6, [.int p0, .int 1, .int 10, .int 0])), (qx_8, .inl (cx_9, 10, .inr (.inr (.inr (.inr fx_11))))), (fq, .inr (4, [.int vx_10, .ref qx_8, .int 1]))] := hD
  refine W.widen (k := 2) (n := 14) (by omega) (by omega) ?_
  obtain rfl : r_12 = 1 := hw
  refine lv_iconst (v := 1) hx hb dX5_addFloor_66 (by decide) ?_
  refine lv_isub hx hb dX5_addFloor_67 ?_
  refine lv_topi (fun x_13 e_14 => ?_)
  obtain rfl : x_13 = 0 := e_14.trans (by decide)
  have hP9 := hP.sub (ws' := [(h0, .inr (10, [.ref fq, .ref sq, .ref gq, .ref nq, .ref dq, .ref pq, .int pl, .int bl, .int tb])), (fq, .inr (4, [.int vx_10, .ref qx_8, .int 1]))]) [0, 3] rfl
  have hD9 := hD.sub (ws' := [(h0, .inr (10, [.ref fq, .ref sq, .ref gq, .ref nq, .ref dq, .ref pq, .int pl, .int bl, .int tb])), (fq, .inr (4, [.int vx_10, .ref qx_8, .int 1]))]) [0, 3] (by decide) rfl
  have hK9 := hK.sub (tys' := []) [] rfl
  exact W.iret (v := 0) hx hb hr (fun t ht hW => ⟨⟨0, (), rfl, rfl, vx_10, qx_8, by rw [ht]; exact hP9, va_K.moved hW.alike hK9, hD9⟩, hS.F ht⟩) hS.2.2 dX5_addFloor_68
def vh_c_addFloor_f : List Cond := .code yX5_addFloor cX5_addFloor 2 (some .int) :: ([Cond.classLink RX5 42 "java/lang/IllegalArgumentException", Cond.initialized "java/lang/IllegalArgumentException"] ++ [])
def v_c_addFloor_f : List Cond := vh_c_addFloor_f ++ (thrI)
set_option maxHeartbeats 4000000 in
set_option maxRecDepth 100000 in
theorem c_addFloor_f (l : Launch) (hl9 : l.stackTraces = false) (dC : Nat → ClassId) (dI : Nat → Nat → Nat) (tE : Nat) (h0 : Nat) (fq : Nat) (sq : Nat) (gq : Nat) (nq : Nat) (dq : Nat) (pq : Nat) (pl : Int32) (bl : Int32) (tb : Int32) (mc_fq : Int32) (p0 : Int32) (sz : Nat) (h : p0 < 3 ∨ 12 < p0) : vx_Met l yX5_addFloor v_c_addFloor_f ({ frames := 6, cells := 1, slots := 6, locals := 90 }) (va_Pc [.ref h0, .int p0] (Pre0 dC dI tE sz [] [(h0, .inr (10, [.ref fq, .ref sq, .ref gq, .ref nq, .ref dq, .ref pq, .int pl, .int bl, .int tb])), (fq, .inr (4, [.int mc_fq, .ref tE, .int 0]))])) (va_Qi (fun (r : Int32) (_ : Unit) => False) (fun _ t => Pst dC dI [] (va_A [(h0, .inr (10, [.ref fq, .ref sq, .ref gq, .ref nq, .ref dq, .ref pq, .int pl, .int bl, .int tb])), (fq, .inr (4, [.int mc_fq, .ref tE, .int 0]))] sz) [(h0, .inr (10, [.ref fq, .ref sq, .ref gq, .ref nq, .ref dq, .ref pq, .int pl, .int bl, .int tb])), (fq, .inr (4, [.int mc_fq, .ref tE, .int 0]))] t) (va_A [(h0, .inr (10, [.ref fq, .ref sq, .ref gq, .ref nq, .ref dq, .ref pq, .int pl, .int bl, .int tb])), (fq, .inr (4, [.int mc_fq, .ref tE, .int 0]))] sz)) (vx_X (fun _ : Unit => True) (fun E _ t => E = "java/lang/IllegalArgumentException" ∧ Pst dC dI [] (va_A [(h0, .inr (10, [.ref fq, .ref sq, .ref gq, .ref nq, .ref dq, .ref pq, .int pl, .int bl, .int tb])), (fq, .inr (4, [.int mc_fq, .ref tE, .int 0]))] sz) [(h0, .inr (10, [.ref fq, .ref sq, .ref gq, .ref nq, .ref dq, .ref pq, .int pl, .int bl, .int tb])), (fq, .inr (4, [.int mc_fq, .ref tE, .int 0]))] t) (va_A [(h0, .inr (10, [.ref fq, .ref sq, .ref gq, .ref nq, .ref dq, .ref pq, .int pl, .int bl, .int tb])), (fq, .inr (4, [.int mc_fq, .ref tE, .int 0]))] sz)) 1 6 (va_A [(h0, .inr (10, [.ref fq, .ref sq, .ref gq, .ref nq, .ref dq, .ref pq, .int pl, .int bl, .int tb])), (fq, .inr (4, [.int mc_fq, .ref tE, .int 0]))] sz) := by
  refine vx_ofW (cc := cX5_addFloor) (maxL := 2) (ret := (some .int)) (by decide) rfl ?_
  intro p e s m args below meth c s₁ B hml hEx hv
  obtain ⟨rfl, hsz, hP, hK, hD0, hT⟩ := hv
  have hx := B.exec
  have hb := B.bytes
  have hr := B.returns
  have hts := atoms_spec (ws := v_c_addFloor_f) B.pre
  have hown : s.vm.findClass RX5 = some m.cls := findClass_of_methodNamed B.named
  have hlocks := B.notSynchronized
  subst hsz
  have hD := hD0.self (sz := s.heap.size)
  generalize hAe : va_A [(h0, .inr (10, [.ref fq, .ref sq, .ref gq, .ref nq, .ref dq, .ref pq, .int pl, .int bl, .int tb])), (fq, .inr (4, [.int mc_fq, .ref tE, .int 0]))] s.heap.size = A at hD hT ⊢
  have hA : ∀ q : Nat, s.heap.size ≤ q → A q := fun q h => by rw [← hAe]; exact Or.inr h
  have hS : va_S A s.heap s.heap [] := va_S.rf
  have hl := lv_entry ([.ref h0, .int p0]) (n := 2) (Nat.le_of_ble_eq_true rfl)
  rw [lg_entry_eq]
  generalize (lg_sl ([.ref h0, .int p0]) ++ List.replicate (2 - (lg_sl ([.ref h0, .int p0])).length) Slot.unset).toArray = ls at hl ⊢
  have hl : lv_has ls 2 [(0, .ref h0), (1, .int p0)] := hl
  refine lv_iload_n hx hb dX5_addFloor_0 rfl (lv_at hl 1 rfl) ?_
  refine lv_iconst (v := 3) hx hb dX5_addFloor_1 (by decide) ?_
  refine lv_icmp_lt (tgt := 11) hx hb dX5_addFloor_2 (by decide) (fun c_1 => ?_) (fun c_1 => ?_)
  · have hP9 := hP.sub (ws' := [(h0, .inr (10, [.ref fq, .ref sq, .ref gq, .ref nq, .ref dq, .ref pq, .int pl, .int bl, .int tb])), (fq, .inr (4, [.int mc_fq, .ref tE, .int 0]))]) [0, 1] rfl
    have hD9 := hD.sub (ws' := [(h0, .inr (10, [.ref fq, .ref sq, .ref gq, .ref nq, .ref dq, .ref pq, .int pl, .int bl, .int tb])), (fq, .inr (4, [.int mc_fq, .ref tE, .int 0]))]) [0, 1] (by decide) rfl
    have hK9 := hK.sub (tys' := []) [] rfl
    obtain ⟨sa, hstr⟩ := hT.s44
    exact vx_throwS (own := RX5) (cls := "java/lang/IllegalArgumentException") (names := ["java/lang/RuntimeException", "java/lang/Exception"]) hx hb hl9 hown (by decide +kernel) (by decide +kernel) (hts (.classLink RX5 42 "java/lang/IllegalArgumentException") (List.mem_of_getElem? (i := 1) rfl)) (hts (.initialized "java/lang/IllegalArgumentException") (List.mem_of_getElem? (i := 2) rfl)) hstr (vx_hat (L := vx_atS RX5 46 "java/lang/IllegalArgumentException" ["java/lang/RuntimeException", "java/lang/Exception"]) (B := [.castable "java/lang/IllegalArgumentException" "java/lang/IllegalArgumentException", .declares ⟨"java/lang/RuntimeException", "<init>", "(Ljava/lang/String;)V"⟩, .declares ⟨"java/lang/Exception", "<init>", "(Ljava/lang/String;)V"⟩, .declares ⟨"java/lang/Throwable", "<init>", "(Ljava/lang/String;)V"⟩]) (fun w hw => hts w (List.mem_append_right _ hw)) (by decide +kernel) (vx_c (va_Nw.use rfl hT.eI) (vx_c (va_Nw.use rfl hT.d1) (vx_c (va_Nw.use rfl hT.d2) (vx_c (va_Nw.use rfl hT.d3) (vx_n)))))) (by decide +kernel) hT.zU hT.zS hS (hl.1.trans hml.symm) dX5_addFloor_11 dX5_addFloor_14 dX5_addFloor_15 dX5_addFloor_17 dX5_addFloor_20 (fun x hx => (hEx x hx).elim) (Nat.le_of_ble_eq_true rfl) (Nat.le_of_ble_eq_true rfl) (Nat.le_of_ble_eq_true rfl) (Nat.le_of_ble_eq_true rfl) hlocks (fun t ha hsz hk => ⟨(), trivial, ⟨rfl, hP9.kept (fun k q hq => hk q.1 (hP9 k q hq).lt), va_K.moved ha hK9, hD9⟩, Nat.le_trans hS.1 hsz, fun q h1 h2 => (hk q (Nat.lt_of_lt_of_le h1 hS.1)).trans (hS.2.1 q h1 h2)⟩) hS.2.2 (Nat.le_of_ble_eq_true rfl) (Nat.le_of_ble_eq_true rfl)
  · refine lv_iload_n hx hb dX5_addFloor_5 rfl (lv_at hl 1 rfl) ?_
    refine lv_bipush (v := 12) hx hb dX5_addFloor_6 (by decide) ?_
    refine lv_icmp_le (tgt := 21) hx hb dX5_addFloor_8 (by decide) (fun c_2 => absurd c_2 (Int32.not_le.mpr (h.resolve_left (by assumption)))) (fun _ => ?_)
    have hP9 := hP.sub (ws' := [(h0, .inr (10, [.ref fq, .ref sq, .ref gq, .ref nq, .ref dq, .ref pq, .int pl, .int bl, .int tb])), (fq, .inr (4, [.int mc_fq, .ref tE, .int 0]))]) [0, 1] rfl
    have hD9 := hD.sub (ws' := [(h0, .inr (10, [.ref fq, .ref sq, .ref gq, .ref nq, .ref dq, .ref pq, .int pl, .int bl, .int tb])), (fq, .inr (4, [.int mc_fq, .ref tE, .int 0]))]) [0, 1] (by decide) rfl
    have hK9 := hK.sub (tys' := []) [] rfl
    obtain ⟨sa, hstr⟩ := hT.s44
    exact vx_throwS (own := RX5) (cls := "java/lang/IllegalArgumentException") (names := ["java/lang/RuntimeException", "java/lang/Exception"]) hx hb hl9 hown (by decide +kernel) (by decide +kernel) (hts (.classLink RX5 42 "java/lang/IllegalArgumentException") (List.mem_of_getElem? (i := 1) rfl)) (hts (.initialized "java/lang/IllegalArgumentException") (List.mem_of_getElem? (i := 2) rfl)) hstr (vx_hat (L := vx_atS RX5 46 "java/lang/IllegalArgumentException" ["java/lang/RuntimeException", "java/lang/Exception"]) (B := [.castable "java/lang/IllegalArgumentException" "java/lang/IllegalArgumentException", .declares ⟨"java/lang/RuntimeException", "<init>", "(Ljava/lang/String;)V"⟩, .declares ⟨"java/lang/Exception", "<init>", "(Ljava/lang/String;)V"⟩, .declares ⟨"java/lang/Throwable", "<init>", "(Ljava/lang/String;)V"⟩]) (fun w hw => hts w (List.mem_append_right _ hw)) (by decide +kernel) (vx_c (va_Nw.use rfl hT.eI) (vx_c (va_Nw.use rfl hT.d1) (vx_c (va_Nw.use rfl hT.d2) (vx_c (va_Nw.use rfl hT.d3) (vx_n)))))) (by decide +kernel) hT.zU hT.zS hS (hl.1.trans hml.symm) dX5_addFloor_11 dX5_addFloor_14 dX5_addFloor_15 dX5_addFloor_17 dX5_addFloor_20 (fun x hx => (hEx x hx).elim) (Nat.le_of_ble_eq_true rfl) (Nat.le_of_ble_eq_true rfl) (Nat.le_of_ble_eq_true rfl) (Nat.le_of_ble_eq_true rfl) hlocks (fun t ha hsz hk => ⟨(), trivial, ⟨rfl, hP9.kept (fun k q hq => hk q.1 (hP9 k q hq).lt), va_K.moved ha hK9, hD9⟩, Nat.le_trans hS.1 hsz, fun q h1 h2 => (hk q (Nat.lt_of_lt_of_le h1 hS.1)).trans (hS.2.1 q h1 h2)⟩) hS.2.2 (Nat.le_of_ble_eq_true rfl) (Nat.le_of_ble_eq_true rfl)
def vh_c_setTune : List Cond := .code yX5_setTune cX5_setTune 7 (some .int) :: ([Cond.code yX5_isFloor cX5_isFloor 2 (some .boolean), Cond.fieldLink RX5 10 "HotelOfBells" "floors" "Ljava/util/ArrayList;", Cond.code yJx4a65c_size_8abf5 cJx4a65c_size_8abf5 1 (some .int), Cond.fieldLink RJx4a65c 48 "java/util/ArrayList" "size" "I", Cond.methodLink RX5 49 yJx4a65c_size_8abf5, Cond.instanceMethod yJx4a65c_size_8abf5, Cond.selects RJx4a65c yJx4a65c_size_8abf5 yJx4a65c_size_8abf5, Cond.initialized RJx4a65c, Cond.methodLink RX5 67 yX5_isFloor, Cond.instanceMethod yX5_isFloor, Cond.selects RX5 yX5_isFloor yX5_isFloor, Cond.initialized RX5, Cond.classLink RX5 71 "java/lang/IndexOutOfBoundsException", Cond.initialized "java/lang/IndexOutOfBoundsException"] ++ (wsX50 ++ (wsJx4a65c0 ++ [])))
def v_c_setTune : List Cond := vh_c_setTune ++ (thrX)
theorem u_c_setTune_X5 : ∀ w ∈ wsX50, w ∈ v_c_setTune := fun _ h => List.mem_append_left _ (List.mem_cons_of_mem _ (List.mem_append_right _ (List.mem_append_left _ h)))
theorem u_c_setTune_Jx4a65c : ∀ w ∈ wsJx4a65c0, w ∈ v_c_setTune := fun _ h => List.mem_append_left _ (List.mem_cons_of_mem _ (List.mem_append_right _ (List.mem_append_right _ (List.mem_append_left _ h))))
theorem gg_c_setTune_c_isFloor : GoodIn v_c_setTune v_c_isFloor := goodIn_r _ [1, 2, 3, 4, 5, 6, 7, 8, 15, 16, 17, 18, 19, 20, 21, 22, 23, 24, 25, 26] (by rfl) (by decide +kernel)
set_option maxHeartbeats 4000000 in
set_option maxRecDepth 100000 in
theorem c_setTune (l : Launch) (hl9 : l.stackTraces = false) (dC : Nat → ClassId) (dI : Nat → Nat → Nat) (tE : Nat) (h0 : Nat) (fq : Nat) (sq : Nat) (gq : Nat) (nq : Nat) (dq : Nat) (pq : Nat) (pl : Int32) (bl : Int32) (tb : Int32) (mc_fq : Int32) (p0 : Int32) (p1 : Int32) (p2 : Int32) (sz : Nat) : vx_Met l yX5_setTune v_c_setTune ({ frames := 6, cells := 1, slots := 6, locals := 90 }) (va_Pc [.ref h0, .int p0, .int p1, .int p2] (Pre0 dC dI tE sz [] [(h0, .inr (10, [.ref fq, .ref sq, .ref gq, .ref nq, .ref dq, .ref pq, .int pl, .int bl, .int tb])), (fq, .inr (4, [.int mc_fq, .ref tE, .int 0]))])) (va_Qi (fun (r : Int32) (_ : Unit) => False) (fun _ t => Pst dC dI [] (va_A [(h0, .inr (10, [.ref fq, .ref sq, .ref gq, .ref nq, .ref dq, .ref pq, .int pl, .int bl, .int tb])), (fq, .inr (4, [.int mc_fq, .ref tE, .int 0]))] sz) [(h0, .inr (10, [.ref fq, .ref sq, .ref gq, .ref nq, .ref dq, .ref pq, .int pl, .int bl, .int tb])), (fq, .inr (4, [.int mc_fq, .ref tE, .int 0]))] t) (va_A [(h0, .inr (10, [.ref fq, .ref sq, .ref gq, .ref nq, .ref dq, .ref pq, .int pl, .int bl, .int tb])), (fq, .inr (4, [.int mc_fq, .ref tE, .int 0]))] sz)) (vx_X (fun _ : Unit => True) (fun E _ t => E = "java/lang/IndexOutOfBoundsException" ∧ Pst dC dI [] (va_A [(h0, .inr (10, [.ref fq, .ref sq, .ref gq, .ref nq, .ref dq, .ref pq, .int pl, .int bl, .int tb])), (fq, .inr (4, [.int mc_fq, .ref tE, .int 0]))] sz) [(h0, .inr (10, [.ref fq, .ref sq, .ref gq, .ref nq, .ref dq, .ref pq, .int pl, .int bl, .int tb])), (fq, .inr (4, [.int mc_fq, .ref tE, .int 0]))] t) (va_A [(h0, .inr (10, [.ref fq, .ref sq, .ref gq, .ref nq, .ref dq, .ref pq, .int pl, .int bl, .int tb])), (fq, .inr (4, [.int mc_fq, .ref tE, .int 0]))] sz)) 1 6 (va_A [(h0, .inr (10, [.ref fq, .ref sq, .ref gq, .ref nq, .ref dq, .ref pq, .int pl, .int bl, .int tb])), (fq, .inr (4, [.int mc_fq, .ref tE, .int 0]))] sz) := by
  refine vx_ofW (cc := cX5_setTune) (maxL := 7) (ret := (some .int)) (by decide) rfl ?_
  intro p e s m args below meth c s₁ B hml hEx hv
  obtain ⟨rfl, hsz, hP, hK, hD0, hT⟩ := hv
  have hx := B.exec
  have hb := B.bytes
  have hr := B.returns
  have hts := atoms_spec (ws := v_c_setTune) B.pre
  have hown : s.vm.findClass RX5 = some m.cls := findClass_of_methodNamed B.named
  have hlocks := B.notSynchronized
  subst hsz
  have hD := hD0.self (sz := s.heap.size)
  generalize hAe : va_A [(h0, .inr (10, [.ref fq, .ref sq, .ref gq, .ref nq, .ref dq, .ref pq, .int pl, .int bl, .int tb])), (fq, .inr (4, [.int mc_fq, .ref tE, .int 0]))] s.heap.size = A at hD hT ⊢
  have hA : ∀ q : Nat, s.heap.size ≤ q → A q := fun q h => by rw [← hAe]; exact Or.inr h
  have hS : va_S A s.heap s.heap [] := va_S.rf
  have hl := lv_entry ([.ref h0, .int p0, .int p1, .int p2]) (n := 7) (Nat.le_of_ble_eq_true rfl)
  rw [lg_entry_eq]
  generalize (lg_sl ([.ref h0, .int p0, .int p1, .int p2]) ++ List.replicate (7 - (lg_sl ([.ref h0, .int p0, .int p1, .int p2])).length) Slot.unset).toArray = ls at hl ⊢
  have hl : lv_has ls 7 [(0, .ref h0), (1, .int p0), (2, .int p1), (3, .int p2)] := hl
  refine lv_aload_n hx hb dX5_setTune_0 rfl (lv_at hl 0 rfl) ?_
  refine lv_iload_n hx hb dX5_setTune_1 rfl (lv_at hl 1 rfl) ?_
  have hPc := hP.sub (ws' := [(h0, .inr (10, [.ref fq, .ref sq, .ref gq, .ref nq, .ref dq, .ref pq, .int pl, .int bl, .int tb])), (fq, .inr (4, [.int mc_fq, .ref tE, .int 0]))]) [0, 1] rfl
  have hDc := hD.sub (ws' := [(h0, .inr (10, [.ref fq, .ref sq, .ref gq, .ref nq, .ref dq, .ref pq, .int pl, .int bl, .int tb])), (fq, .inr (4, [.int mc_fq, .ref tE, .int 0]))]) [0, 1] (by decide) rfl
  have hKc := hK.sub (tys' := []) [] rfl
  have hFc := va_free (wc := [(h0, .inr (10, [.ref fq, .ref sq, .ref gq, .ref nq, .ref dq, .ref pq, .int pl, .int bl, .int tb])), (fq, .inr (4, [.int mc_fq, .ref tE, .int 0]))]) hD hS hA [0, 1] rfl
  refine va_calli (va_runV (As := [.int p0]) (rest := []) ⟨hx, hb, hml, hown, hts⟩ (c_isFloor l hl9 dC dI tE h0 fq sq gq nq dq pq pl bl tb mc_fq p0 _ ) (cwV 1 hts (goodIn_app (goodIn_r _ [9, 10, 11, 12] (by rfl) (by decide +kernel)) gg_c_setTune_c_isFloor) rfl rfl rfl (by decide +kernel) ⟨Nat.le_of_ble_eq_true rfl, Nat.le_of_ble_eq_true rfl⟩) ⟨Pre0.blind, va_recv hKc hPc (ci := 10) (q0 := 0) rfl rfl, Pre0.give hPc hKc hDc hT hS hFc⟩ rfl rfl hl.1 rfl (lv_room (Nat.le_of_ble_eq_true rfl)) dX5_setTune_2 ⟨Nat.le_of_ble_eq_true rfl, Nat.le_of_ble_eq_true rfl⟩) hS (fun q _ h => hFc q h) hFc (fun r_1 u t H1 locs ht hvm hw hB hz1 hk1 hS => ?_)
  obtain ⟨hP1, hK1, hD1⟩ := hB
  rw [ht] at hP1
  have hK1 := va_K.moved hvm.symm hK1
  obtain ⟨hP, hD⟩ := va_join (wr := []) (w1 := [(h0, .inr (10, [.ref fq, .ref sq, .ref gq, .ref nq, .ref dq, .ref pq, .int pl, .int bl, .int tb])), (fq, .inr (4, [.int mc_fq, .ref tE, .int 0]))]) hP hD [0, 1] [] rfl rfl (by decide) (by decide) hk1 hFc hP1 hD1
  generalize H1 = H at hP hS ⊢
  have hP : va_P (dC, dI) vwCl [(h0, .inr (10, [.ref fq, .ref sq, .ref gq, .ref nq, .ref dq, .ref pq, .int pl, .int bl, .int tb])), (fq, .inr (4, [.int mc_fq, .ref tE, .int 0]))] H := hP
  have hD : va_D A [(h0, .inr (10, [.ref fq, .ref sq, .ref gq, .ref nq, .ref dq, .ref pq, .int pl, .int bl, .int tb])), (fq, .inr (4, [.int mc_fq, .ref tE, .int 0]))] := hD
  refine W.widen (k := 0) (n := 0) (by omega) (by omega) ?_
  obtain rfl : r_1 = 0 := hw
  refine lv_if_ne (tgt := 18) hx hb dX5_setTune_5 (by decide) (fun c_2 => absurd (by decide) c_2) (fun _ => ?_)
  have hP9 := hP.sub (ws' := [(h0, .inr (10, [.ref fq, .ref sq, .ref gq, .ref nq, .ref dq, .ref pq, .int pl, .int bl, .int tb])), (fq, .inr (4, [.int mc_fq, .ref tE, .int 0]))]) [0, 1] rfl
  have hD9 := hD.sub (ws' := [(h0, .inr (10, [.ref fq, .ref sq, .ref gq, .ref nq, .ref dq, .ref pq, .int pl, .int bl, .int tb])), (fq, .inr (4, [.int mc_fq, .ref tE, .int 0]))]) [0, 1] (by decide) rfl
  have hK9 := hK.sub (tys' := []) [] rfl
  obtain ⟨sa, hstr⟩ := hT.s73
  exact vx_throwS (own := RX5) (cls := "java/lang/IndexOutOfBoundsException") (names := ["java/lang/RuntimeException", "java/lang/Exception"]) hx hb hl9 hown (by decide +kernel) (by decide +kernel) (hts (.classLink RX5 71 "java/lang/IndexOutOfBoundsException") (List.mem_of_getElem? (i := 13) rfl)) (hts (.initialized "java/lang/IndexOutOfBoundsException") (List.mem_of_getElem? (i := 14) rfl)) hstr (vx_hat (L := vx_atS RX5 75 "java/lang/IndexOutOfBoundsException" ["java/lang/RuntimeException", "java/lang/Exception"]) (B := [.castable "java/lang/IndexOutOfBoundsException" "java/lang/IndexOutOfBoundsException", .declares ⟨"java/lang/RuntimeException", "<init>", "(Ljava/lang/String;)V"⟩, .declares ⟨"java/lang/Exception", "<init>", "(Ljava/lang/String;)V"⟩, .declares ⟨"java/lang/Throwable", "<init>", "(Ljava/lang/String;)V"⟩]) (fun w hw => hts w (List.mem_append_right _ hw)) (by decide +kernel) (vx_c (va_Nw.use rfl hT.eX) (vx_c (va_Nw.use rfl hT.d1) (vx_c (va_Nw.use rfl hT.d2) (vx_c (va_Nw.use rfl hT.d3) (vx_n)))))) (by decide +kernel) hT.zU hT.zS hS (hl.1.trans hml.symm) dX5_setTune_8 dX5_setTune_11 dX5_setTune_12 dX5_setTune_14 dX5_setTune_17 (fun x hx => (hEx x hx).elim) (Nat.le_of_ble_eq_true rfl) (Nat.le_of_ble_eq_true rfl) (Nat.le_of_ble_eq_true rfl) (Nat.le_of_ble_eq_true rfl) hlocks (fun t ha hsz hk => ⟨(), trivial, ⟨rfl, hP9.kept (fun k q hq => hk q.1 (hP9 k q hq).lt), va_K.moved ha hK9, hD9⟩, Nat.le_trans hS.1 hsz, fun q h1 h2 => (hk q (Nat.lt_of_lt_of_le h1 hS.1)).trans (hS.2.1 q h1 h2)⟩) hS.2.2 (Nat.le_of_ble_eq_true rfl) (Nat.le_of_ble_eq_true rfl)
def v_c_addLift : List Cond := .code yX5_addLift cX5_addLift 1 (some .int) :: ([Cond.fieldLink RX5 16 "HotelOfBells" "shafts" "Ljava/util/ArrayList;", Cond.code yJx4a65c_size_8abf5 cJx4a65c_size_8abf5 1 (some .int), Cond.fieldLink RJx4a65c 48 "java/util/ArrayList" "size" "I", Cond.methodLink RX5 49 yJx4a65c_size_8abf5, Cond.instanceMethod yJx4a65c_size_8abf5, Cond.selects RJx4a65c yJx4a65c_size_8abf5 yJx4a65c_size_8abf5, Cond.initialized RJx4a65c, Cond.classLink RX5 100 RX4, Cond.instantiable RX4 1, Cond.initialized RX4, Cond.code yX4_init cX4_init 2 none, Cond.methodLink RX4 3 objectInit, Cond.instanceMethod objectInit, Cond.code objectInit ⟨#[0xb1]⟩ 1 none, Cond.arrayClass .int, Cond.fieldLink RX4 9 "HotelOfBells$Shaft" "doors" "[I", Cond.methodLink RX5 102 yX4_init, Cond.instanceMethod yX4_init, Cond.code yJx4a65c_add_9ea2d cJx4a65c_add_9ea2d 2 (some .boolean), Cond.fieldLink RJx4a65c 63 "java/util/ArrayList" "modCount" "I", Cond.sameField "java/util/ArrayList" "java/util/AbstractList" "modCount" "I", Cond.fieldLink RJx4a65c 9 "java/util/ArrayList" "elementData" "[Ljava/lang/Object;", Cond.code yJx4a65c_add_72be8 cJx4a65c_add_72be8 4 none, Cond.code yJx4a65c_grow_d5877 cJx4a65c_grow_d5877 1 (some (.array (.object "java/lang/Object"))), Cond.code yJx4a65c_grow_92f84 cJx4a65c_grow_92f84 4 (some (.array (.object "java/lang/Object"))), Cond.fieldLink RJx4a65c 39 "java/util/ArrayList" "DEFAULTCAPACITY_EMPTY_ELEMENTDATA" "[Ljava/lang/Object;", Cond.methodLink RJx4a65c 79 Lib.Math.max.name, Cond.static Lib.Math.max.name, Cond.initialized "java/lang/Math", Cond.code Lib.Math.max.name Lib.Math.max.code 2 (some .int), Cond.classLink RJx4a65c 7 "java/lang/Object", Cond.methodLink RJx4a65c 69 yJx4a65c_grow_92f84, Cond.instanceMethod yJx4a65c_grow_92f84, Cond.selects RJx4a65c yJx4a65c_grow_92f84 yJx4a65c_grow_92f84, Cond.methodLink RJx4a65c 129 yJx4a65c_grow_d5877, Cond.instanceMethod yJx4a65c_grow_d5877, Cond.selects RJx4a65c yJx4a65c_grow_d5877 yJx4a65c_grow_d5877, Cond.methodLink RJx4a65c 131 yJx4a65c_add_72be8, Cond.instanceMethod yJx4a65c_add_72be8, Cond.selects RJx4a65c yJx4a65c_add_72be8 yJx4a65c_add_72be8, Cond.methodLink RX5 63 yJx4a65c_add_9ea2d, Cond.instanceMethod yJx4a65c_add_9ea2d, Cond.selects RJx4a65c yJx4a65c_add_9ea2d yJx4a65c_add_9ea2d] ++ (wsX50 ++ (wsJx4a65c0 ++ (wsX40 ++ []))))
theorem u_c_addLift_X5 : ∀ w ∈ wsX50, w ∈ v_c_addLift := fun _ h => List.mem_cons_of_mem _ (List.mem_append_right _ (List.mem_append_left _ h))
theorem u_c_addLift_Jx4a65c : ∀ w ∈ wsJx4a65c0, w ∈ v_c_addLift := fun _ h => List.mem_cons_of_mem _ (List.mem_append_right _ (List.mem_append_right _ (List.mem_append_left _ h)))
theorem u_c_addLift_X4 : ∀ w ∈ wsX40, w ∈ v_c_addLift := fun _ h => List.mem_cons_of_mem _ (List.mem_append_right _ (List.mem_append_right _ (List.mem_append_right _ (List.mem_append_left _ h))))
theorem gg_c_addLift_c_AL_size : GoodIn v_c_addLift v_c_AL_size := goodIn_r _ [2, 3, 53, 54, 55] (by rfl) (by decide +kernel)
theorem gg_c_addLift_c_Shaft_init : GoodIn v_c_addLift v_c_Shaft_init := goodIn_r _ [11, 12, 13, 14, 15, 16, 56] (by rfl) (by decide +kernel)
theorem gg_c_addLift_c_AL_add_Shaft : GoodIn v_c_addLift v_c_AL_add_Shaft := goodIn_r _ [19, 20, 21, 22, 3, 23, 24, 25, 26, 27, 28, 29, 30, 31, 32, 33, 34, 7, 35, 36, 37, 38, 39, 40, 53, 54, 55] (by rfl) (by decide +kernel)
set_option maxHeartbeats 4000000 in
set_option maxRecDepth 100000 in
theorem c_addLift (l : Launch) (hl9 : l.stackTraces = false) (dC : Nat → ClassId) (dI : Nat → Nat → Nat) (tE : Nat) (h0 : Nat) (fq : Nat) (sq : Nat) (gq : Nat) (nq : Nat) (dq : Nat) (pq : Nat) (pl : Int32) (bl : Int32) (tb : Int32) (mc_sq : Int32) (sz : Nat) : Met l yX5_addLift v_c_addLift ({ frames := 5, cells := 3, slots := 17, locals := 101 }) (va_Pc [.ref h0] (Pre0 dC dI tE sz [] [(h0, .inr (10, [.ref fq, .ref sq, .ref gq, .ref nq, .ref dq, .ref pq, .int pl, .int bl, .int tb])), (sq, .inr (4, [.int mc_sq, .ref tE, .int 0]))])) (va_Qi (fun (r : Int32) (_ : Unit) => r = 0) (fun _ t => ∃ (vx0 : Int32), ∃ (qd1 : Nat), Pst dC dI [] (va_A [(h0, .inr (10, [.ref fq, .ref sq, .ref gq, .ref nq, .ref dq, .ref pq, .int pl, .int bl, .int tb])), (sq, .inr (4, [.int mc_sq, .ref tE, .int 0]))] sz) [(h0, .inr (10, [.ref fq, .ref sq, .ref gq, .ref nq, .ref dq, .ref pq, .int pl, .int bl, .int tb])), (sq, .inr (4, [.int vx0, .ref qd1, .int 1]))] t) (va_A [(h0, .inr (10, [.ref fq, .ref sq, .ref gq, .ref nq, .ref dq, .ref pq, .int pl, .int bl, .int tb])), (sq, .inr (4, [.int mc_sq, .ref tE, .int 0]))] sz)) 3 17 (va_A [(h0, .inr (10, [.ref fq, .ref sq, .ref gq, .ref nq, .ref dq, .ref pq, .int pl, .int bl, .int tb])), (sq, .inr (4, [.int mc_sq, .ref tE, .int 0]))] sz) := by
  refine Met.ofW (cc := cX5_addLift) (maxL := 1) (ret := (some .int)) (by decide) rfl ?_
  intro p e s m args below meth c s₁ B hml hv
  obtain ⟨rfl, hsz, hP, hK, hD0, hT⟩ := hv
  have hx := B.exec
  have hb := B.bytes
  have hr := B.returns
  have hts := atoms_spec (ws := v_c_addLift) B.pre
  have hown : s.vm.findClass RX5 = some m.cls := findClass_of_methodNamed B.named
  have hlocks := B.notSynchronized
  subst hsz
  have hD := hD0.self (sz := s.heap.size)
  generalize hAe : va_A [(h0, .inr (10, [.ref fq, .ref sq, .ref gq, .ref nq, .ref dq, .ref pq, .int pl, .int bl, .int tb])), (sq, .inr (4, [.int mc_sq, .ref tE, .int 0]))] s.heap.size = A at hD hT ⊢
  have hA : ∀ q : Nat, s.heap.size ≤ q → A q := fun q h => by rw [← hAe]; exact Or.inr h
  have hS : va_S A s.heap s.heap [] := va_S.rf
  have hl := lv_entry ([.ref h0]) (n := 1) (Nat.le_of_ble_eq_true rfl)
  rw [lg_entry_eq]
  generalize (lg_sl ([.ref h0]) ++ List.replicate (1 - (lg_sl ([.ref h0])).length) Slot.unset).toArray = ls at hl ⊢
  have hl : lv_has ls 1 [(0, .ref h0)] := hl
  refine lv_aload_n hx hb dX5_addLift_0 rfl (lv_at hl 0 rfl) ?_
  refine va_get (D := (dC, dI)) (ci := 10) (v := .ref sq) (C := RX5) (T := TX5) (N := 9) hx hb hts u_c_addLift_X5 hown hK hP 0 rfl rfl 1 (by decide) (hts (.fieldLink RX5 16 "HotelOfBells" "shafts" "Ljava/util/ArrayList;") (List.mem_of_getElem? (i := 1) rfl)) (fun _ h9 => h9) rfl dX5_addLift_1 ?_
  have hPc := hP.sub (ws' := [(sq, .inr (4, [.int mc_sq, .ref tE, .int 0]))]) [1] rfl
  have hDc := hD.sub (ws' := [(sq, .inr (4, [.int mc_sq, .ref tE, .int 0]))]) [1] (by decide) rfl
  have hKc := hK.sub (tys' := []) [] rfl
  have hFc := va_free (wc := [(sq, .inr (4, [.int mc_sq, .ref tE, .int 0]))]) hD hS hA [1] rfl
  refine va_calli (va_runV (As := []) (rest := []) ⟨hx, hb, hml, hown, hts⟩ (c_AL_size l hl9 dC dI tE sq mc_sq 0 (.ref tE) _ ) (cwV 0 hts (goodIn_app (goodIn_r _ [4, 5, 6, 7] (by rfl) (by decide +kernel)) gg_c_addLift_c_AL_size) rfl rfl rfl (by decide +kernel) ⟨Nat.le_of_ble_eq_true rfl, Nat.le_of_ble_eq_true rfl⟩) ⟨Pre0.blind, va_recv hKc hPc (ci := 4) (q0 := 0) rfl rfl, Pre0.give hPc hKc hDc hT hS hFc⟩ rfl rfl hl.1 rfl (lv_room (Nat.le_of_ble_eq_true rfl)) dX5_addLift_4 ⟨Nat.le_of_ble_eq_true rfl, Nat.le_of_ble_eq_true rfl⟩) hS (fun q _ h => hFc q h) hFc (fun r_1 u t H1 locs ht hvm hw hB hz1 hk1 hS => ?_)
  obtain ⟨hP1, hK1, hD1⟩ := hB
  rw [ht] at hP1
  have hK1 := va_K.moved hvm.symm hK1
  obtain ⟨hP, hD⟩ := va_join (wr := [(h0, .inr (10, [.ref fq, .ref sq, .ref gq, .ref nq, .ref dq, .ref pq, .int pl, .int bl, .int tb]))]) (w1 := [(sq, .inr (4, [.int mc_sq, .ref tE, .int 0]))]) hP hD [1] [0] rfl rfl (by decide) (by decide) hk1 hFc hP1 hD1
  generalize H1 = H at hP hS ⊢
  have hP : va_P (dC, dI) vwCl [(h0, .inr (10, [.ref fq, .ref sq, .ref gq, .ref nq, .ref dq, .ref pq, .int pl, .int bl, .int tb])), (sq, .inr (4, [.int mc_sq, .ref tE, .int 0]))] H := hP
  have hD : va_D A [(h0, .inr (10, [.ref fq, .ref sq, .ref gq, .ref nq, .ref dq, .ref pq, .int pl, .int bl, .int tb])), (sq, .inr (4, [.int mc_sq, .ref tE, .int 0]))] := hD
  refine W.widen (k := 0) (n := 0) (by omega) (by omega) ?_
  obtain rfl : r_1 = 0 := hw
  refine lv_iconst (v := 4) hx hb dX5_addLift_7 (by decide) ?_
  refine lv_icmp_lt (tgt := 21) hx hb dX5_addLift_8 (by decide) (fun _ => ?_) (fun c_2 => absurd (by decide) c_2)
  refine lv_aload_n hx hb dX5_addLift_21 rfl (lv_at hl 0 rfl) ?_
  refine va_get (D := (dC, dI)) (ci := 10) (v := .ref sq) (C := RX5) (T := TX5) (N := 9) hx hb hts u_c_addLift_X5 hown hK hP 0 rfl rfl 1 (by decide) (hts (.fieldLink RX5 16 "HotelOfBells" "shafts" "Ljava/util/ArrayList;") (List.mem_of_getElem? (i := 1) rfl)) (fun _ h9 => h9) rfl dX5_addLift_22 ?_
  refine va_new (ci := 9) (fs := [.null]) (C := RX4) (T := TX4) (N := 1) hx hb hts u_c_addLift_X4 tyX4 tyX4_ok hown (hts (.classLink RX5 100 RX4) (List.mem_of_getElem? (i := 8) rfl)) (hts (.instantiable RX4 1) (List.mem_of_getElem? (i := 9) rfl)) (hts (.initialized RX4) (List.mem_of_getElem? (i := 10) rfl)) hK hP hD hS hA rfl (fun j hj => by rcases (show j = 0 by omega) with rfl <;> rfl) (Nat.le_of_ble_eq_true rfl) (Nat.le_of_ble_eq_true rfl) dX5_addLift_25 (fun q_3 H hP hD hS => ?_)
  have hP : va_P (dC, dI) vwCl [(h0, .inr (10, [.ref fq, .ref sq, .ref gq, .ref nq, .ref dq, .ref pq, .int pl, .int bl, .int tb])), (sq, .inr (4, [.int mc_sq, .ref tE, .int 0])), (q_3, .inr (9, [.null]))] H := hP
  have hD : va_D A [(h0, .inr (10, [.ref fq, .ref sq, .ref gq, .ref nq, .ref dq, .ref pq, .int pl, .int bl, .int tb])), (sq, .inr (4, [.int mc_sq, .ref tE, .int 0])), (q_3, .inr (9, [.null]))] := hD
  refine W.widen (k := 1) (n := 1) (by omega) (by omega) ?_
  refine lv_dup hx hb dX5_addLift_28 rfl ?_
  have hPc := hP.sub (ws' := [(q_3, .inr (9, [.null]))]) [2] rfl
  have hDc := hD.sub (ws' := [(q_3, .inr (9, [.null]))]) [2] (by decide) rfl
  have hKc := hK.sub (tys' := []) [] rfl
  have hFc := va_free (wc := [(q_3, .inr (9, [.null]))]) hD hS hA [2] rfl
  refine va_callv (va_runI (As := []) (rest := [.ref q_3, .ref sq]) ⟨hx, hb, hml, hown, hts⟩ (c_Shaft_init l hl9 dC dI tE q_3 _ ) (cwI 0 hts gg_c_addLift_c_Shaft_init rfl rfl rfl (hts (.initialized RX4) (List.mem_of_getElem? (i := 10) rfl)) (hts (.methodLink RX5 102 yX4_init) (List.mem_of_getElem? (i := 17) rfl)) (hts (.instanceMethod yX4_init) (List.mem_of_getElem? (i := 18) rfl)) rfl (by decide +kernel) ⟨Nat.le_of_ble_eq_true rfl, Nat.le_of_ble_eq_true rfl⟩) ⟨Pre0.blind, Pre0.give hPc hKc hDc hT hS hFc⟩ rfl rfl hl.1 rfl (lv_room (Nat.le_of_ble_eq_true rfl)) dX5_addLift_29 ⟨Nat.le_of_ble_eq_true rfl, Nat.le_of_ble_eq_true rfl⟩) hS (fun q _ h => hFc q h) hFc (fun u t H1 locs ht hvm hw hB hz1 hk1 hS => ?_)
  obtain ⟨qx_5, cx_6, fx_7, hP1, hK1, hD1⟩ := hB
  rw [ht] at hP1
  have hK1 := va_K.moved hvm.symm hK1
  obtain ⟨hP, hD⟩ := va_join (wr := [(h0, .inr (10, [.ref fq, .ref sq, .ref gq, .ref nq, .ref dq, .ref pq, .int pl, .int bl, .int tb])), (sq, .inr (4, [.int mc_sq, .ref tE, .int 0]))]) (w1 := [(q_3, .inr (9, [.ref qx_5])), (qx_5, .inl (cx_6, 6, .inl fx_7))]) hP hD [2] [0, 1] rfl rfl (by decide) (by decide) hk1 hFc hP1 hD1
  have hK := hK.app (hK1.sub (tys' := [(cx_6, .int)]) [0] rfl)
  have hK : va_K (dC, dI) vwCl [(cx_6, .int)] s := hK
  generalize H1 = H at hP hS ⊢
  have hP : va_P (dC, dI) vwCl [(h0, .inr (10, [.ref fq, .ref sq, .ref gq, .ref nq, .ref dq, .ref pq, .int pl, .int bl, .int tb])), (sq, .inr (4, [.int mc_sq, .ref tE, .int 0])), (q_3, .inr (9, [.ref qx_5])), (qx_5, .inl (cx_6, 6, .inl fx_7))] H := hP
  have hD : va_D A [(h0, .inr (10, [.ref fq, .ref sq, .ref gq, .ref nq, .ref dq, .ref pq, .int pl, .int bl, .int tb])), (sq, .inr (4, [.int mc_sq, .ref tE, .int 0])), (q_3, .inr (9, [.ref qx_5])), (qx_5, .inl (cx_6, 6, .inl fx_7))] := hD
  refine W.widen (k := 2) (n := 7) (by omega) (by omega) ?_
  have hPc := hP.sub (ws' := [(sq, .inr (4, [.int mc_sq, .ref tE, .int 0])), (q_3, .inr (9, [.ref qx_5]))]) [1, 2] rfl
  have hDc := hD.sub (ws' := [(sq, .inr (4, [.int mc_sq, .ref tE, .int 0])), (q_3, .inr (9, [.ref qx_5]))]) [1, 2] (by decide) rfl
  have hKc := hK.sub (tys' := []) [] rfl
  have hFc := va_free (wc := [(sq, .inr (4, [.int mc_sq, .ref tE, .int 0])), (q_3, .inr (9, [.ref qx_5]))]) hD hS hA [1, 2] rfl
  refine va_calli (va_runV (As := [.ref q_3]) (rest := []) ⟨hx, hb, hml, hown, hts⟩ (c_AL_add_Shaft l hl9 dC dI tE sq q_3 qx_5 mc_sq _ ) (cwV 1 hts (goodIn_app (goodIn_r _ [41, 42, 43, 7] (by rfl) (by decide +kernel)) gg_c_addLift_c_AL_add_Shaft) rfl rfl rfl (by decide +kernel) ⟨Nat.le_of_ble_eq_true rfl, Nat.le_of_ble_eq_true rfl⟩) ⟨Pre0.blind, va_recv hKc hPc (ci := 4) (q0 := 0) rfl rfl, Pre0.give hPc hKc hDc hT hS hFc⟩ rfl rfl hl.1 rfl (lv_room (Nat.le_of_ble_eq_true rfl)) dX5_addLift_32 ⟨Nat.le_of_ble_eq_true rfl, Nat.le_of_ble_eq_true rfl⟩) hS (fun q _ h => hFc q h) hFc (fun r_8 u t H1 locs ht hvm hw hB hz1 hk1 hS => ?_)
  obtain ⟨qx_9, cx_10, vx_11, fx_12, hP1, hK1, hD1⟩ := hB
  rw [ht] at hP1
  have hK1 := va_K.moved hvm.symm hK1
  obtain ⟨hP, hD⟩ := va_join (wr := [(h0, .inr (10, [.ref fq, .ref sq, .ref gq, .ref nq, .ref dq, .ref pq, .int pl, .int bl, .int tb])), (qx_5, .inl (cx_6, 6, .inl fx_7))]) (w1 := [(q_3, .inr (9, [.ref qx_5])), (sq, .inr (4, [.int vx_11, .ref qx_9, .int 1])), (qx_9, .inl (cx_10, 10, .inr (.inr (.inr (.inr fx_12)))))]) hP hD [1, 2] [0, 3] rfl rfl (by decide) (by decide) hk1 hFc hP1 hD1
  have hK := hK.app (hK1.sub (tys' := [(cx_10, .object "java/lang/Object")]) [0] rfl)
  have hK : va_K (dC, dI) vwCl [(cx_6, .int), (cx_10, .object "java/lang/Object")] s := hK
  generalize H1 = H at hP hS ⊢
  have hP : va_P (dC, dI) vwCl [(h0, .inr (10, [.ref fq, .ref sq, .ref gq, .ref nq, .ref dq, .ref pq, .int pl, .int bl, .int tb])), (qx_5, .inl (cx_6, 6, .inl fx_7)), (q_3, .inr (9, [.ref qx_5])), (sq, .inr (4, [.int vx_11, .ref qx_9, .int 1])), (qx_9, .inl (cx_10, 10, .inr (.inr (.inr (.inr fx_12)))))] H := hP
  have hD : va_D A [(h0, .inr (10, [.ref fq, .ref sq, .ref gq, .ref nq, .ref dq, .ref pq, .int pl, .int bl, .int tb])), (qx_5, .inl (cx_6, 6, .inl fx_7)), (q_3, .inr (9, [.ref qx_5])), (sq, .inr (4, [.int vx_11, .ref qx_9, .int 1])), (qx_9, .inl (cx_10, 10, .inr (.inr (.inr (.inr fx_12)))))] := hD
  refine W.widen (k := 3) (n := 17) (by omega) (by omega) ?_
  obtain rfl : r_8 = 1 := hw
  refine lv_pop hx hb dX5_addLift_35 rfl ?_
  refine lv_aload_n hx hb dX5_addLift_36 rfl (lv_at hl 0 rfl) ?_
  refine va_get (D := (dC, dI)) (ci := 10) (v := .ref sq) (C := RX5) (T := TX5) (N := 9) hx hb hts u_c_addLift_X5 hown hK hP 0 rfl rfl 1 (by decide) (hts (.fieldLink RX5 16 "HotelOfBells" "shafts" "Ljava/util/ArrayList;") (List.mem_of_getElem? (i := 1) rfl)) (fun _ h9 => h9) rfl dX5_addLift_37 ?_
  have hPc := hP.sub (ws' := [(sq, .inr (4, [.int vx_11, .ref qx_9, .int 1]))]) [3] rfl
  have hDc := hD.sub (ws' := [(sq, .inr (4, [.int vx_11, .ref qx_9, .int 1]))]) [3] (by decide) rfl
  have hKc := hK.sub (tys' := []) [] rfl
  have hFc := va_free (wc := [(sq, .inr (4, [.int vx_11, .ref qx_9, .int 1]))]) hD hS hA [3] rfl
  refine va_calli (va_runV (As := []) (rest := []) ⟨hx, hb, hml, hown, hts⟩ (c_AL_size l hl9 dC dI tE sq vx_11 1 (.ref qx_9) _ ) (cwV 0 hts (goodIn_app (goodIn_r _ [4, 5, 6, 7] (by rfl) (by decide +kernel)) gg_c_addLift_c_AL_size) rfl rfl rfl (by decide +kernel) ⟨Nat.le_of_ble_eq_true rfl, Nat.le_of_ble_eq_true rfl⟩) ⟨Pre0.blind, va_recv hKc hPc (ci := 4) (q0 := 0) rfl rfl, Pre0.give hPc hKc hDc hT hS hFc⟩ rfl rfl hl.1 rfl (lv_room (Nat.le_of_ble_eq_true rfl)) dX5_addLift_40 ⟨Nat.le_of_ble_eq_true rfl, Nat.le_of_ble_eq_true rfl⟩) hS (fun q _ h => hFc q h) hFc (fun r_13 u t H1 locs ht hvm hw hB hz1 hk1 hS => ?_)
  obtain ⟨hP1, hK1, hD1⟩ := hB
  rw [ht] at hP1
  have hK1 := va_K.moved hvm.symm hK1
  obtain ⟨hP, hD⟩ := va_join (wr := [(h0, .inr (10, [.ref fq, .ref sq, .ref gq, .ref nq, .ref dq, .ref pq, .int pl, .int bl, .int tb])), (qx_5, .inl (cx_6, 6, .inl fx_7)), (q_3, .inr (9, [.ref qx_5])), (qx_9, .inl (cx_10, 10, .inr (.inr (.inr (.inr fx_12)))))]) (w1 := [(sq, .inr (4, [.int vx_11, .ref qx_9, .int 1]))]) hP hD [3] [0, 1, 2, 4] rfl rfl (by decide) (by decide) hk1 hFc hP1 hD1
  generalize H1 = H at hP hS ⊢
  have hP : va_P (dC, dI) vwCl [(h0, .inr (10, [.ref fq, .ref sq, .ref gq, .ref nq, .ref dq, .ref pq, .int pl, .int bl, .int tb])), (qx_5, .inl (cx_6, 6, .inl fx_7)), (q_3, .inr (9, [.ref qx_5])), (qx_9, .inl (cx_10, 10, .inr (.inr (.inr (.inr fx_12))))), (sq, .inr (4, [.int vx_11, .ref qx_9, .int 1]))] H := hP
  have hD : va_D A [(h0, .inr (10, [.ref fq, .ref sq, .ref gq, .ref nq, .ref dq, .ref pq, .int pl, .int bl, .int tb])), (qx_5, .inl (cx_6, 6, .inl fx_7)), (q_3, .inr (9, [.ref qx_5])), (qx_9, .inl (cx_10, 10, .inr (.inr (.inr (.inr fx_12))))), (sq, .inr (4, [.int vx_11, .ref qx_9, .int 1]))] := hD
  refine W.widen (k := 3) (n := 17) (by omega) (by omega) ?_
  obtain rfl : r_13 = 1 := hw
  refine lv_iconst (v := 1) hx hb dX5_addLift_43 (by decide) ?_
  refine lv_isub hx hb dX5_addLift_44 ?_
  refine lv_topi (fun x_14 e_15 => ?_)
  obtain rfl : x_14 = 0 := e_15.trans (by decide)
  have hP9 := hP.sub (ws' := [(h0, .inr (10, [.ref fq, .ref sq, .ref gq, .ref nq, .ref dq, .ref pq, .int pl, .int bl, .int tb])), (sq, .inr (4, [.int vx_11, .ref qx_9, .int 1]))]) [0, 4] rfl
  have hD9 := hD.sub (ws' := [(h0, .inr (10, [.ref fq, .ref sq, .ref gq, .ref nq, .ref dq, .ref pq, .int pl, .int bl, .int tb])), (sq, .inr (4, [.int vx_11, .ref qx_9, .int 1]))]) [0, 4] (by decide) rfl
  have hK9 := hK.sub (tys' := []) [] rfl
  exact W.iret (v := 0) hx hb hr (fun t ht hW => ⟨⟨0, (), rfl, rfl, vx_11, qx_9, by rw [ht]; exact hP9, va_K.moved hW.alike hK9, hD9⟩, hS.F ht⟩) hS.2.2 dX5_addLift_45
def vh_c_setDoor : List Cond := .code yX5_setDoor cX5_setDoor 6 (some .int) :: ([Cond.code yX5_isLift cX5_isLift 2 (some .boolean), Cond.fieldLink RX5 16 "HotelOfBells" "shafts" "Ljava/util/ArrayList;", Cond.code yJx4a65c_size_8abf5 cJx4a65c_size_8abf5 1 (some .int), Cond.fieldLink RJx4a65c 48 "java/util/ArrayList" "size" "I", Cond.methodLink RX5 49 yJx4a65c_size_8abf5, Cond.instanceMethod yJx4a65c_size_8abf5, Cond.selects RJx4a65c yJx4a65c_size_8abf5 yJx4a65c_size_8abf5, Cond.initialized RJx4a65c, Cond.methodLink RX5 103 yX5_isLift, Cond.instanceMethod yX5_isLift, Cond.selects RX5 yX5_isLift yX5_isLift, Cond.initialized RX5, Cond.classLink RX5 71 "java/lang/IndexOutOfBoundsException", Cond.initialized "java/lang/IndexOutOfBoundsException"] ++ (wsX50 ++ (wsJx4a65c0 ++ [])))
def v_c_setDoor : List Cond := vh_c_setDoor ++ (thrX)
theorem u_c_setDoor_X5 : ∀ w ∈ wsX50, w ∈ v_c_setDoor := fun _ h => List.mem_append_left _ (List.mem_cons_of_mem _ (List.mem_append_right _ (List.mem_append_left _ h)))
theorem u_c_setDoor_Jx4a65c : ∀ w ∈ wsJx4a65c0, w ∈ v_c_setDoor := fun _ h => List.mem_append_left _ (List.mem_cons_of_mem _ (List.mem_append_right _ (List.mem_append_right _ (List.mem_append_left _ h))))
theorem gg_c_setDoor_c_isLift : GoodIn v_c_setDoor v_c_isLift := goodIn_r _ [1, 2, 3, 4, 5, 6, 7, 8, 15, 16, 17, 18, 19, 20, 21, 22, 23, 24, 25, 26] (by rfl) (by decide +kernel)
set_option maxHeartbeats 4000000 in
set_option maxRecDepth 100000 in
theorem c_setDoor (l : Launch) (hl9 : l.stackTraces = false) (dC : Nat → ClassId) (dI : Nat → Nat → Nat) (tE : Nat) (h0 : Nat) (fq : Nat) (sq : Nat) (gq : Nat) (nq : Nat) (dq : Nat) (pq : Nat) (pl : Int32) (bl : Int32) (tb : Int32) (mc_sq : Int32) (p0 : Int32) (p1 : Int32) (p2 : Int32) (sz : Nat) : vx_Met l yX5_setDoor v_c_setDoor ({ frames := 6, cells := 1, slots := 6, locals := 90 }) (va_Pc [.ref h0, .int p0, .int p1, .int p2] (Pre0 dC dI tE sz [] [(h0, .inr (10, [.ref fq, .ref sq, .ref gq, .ref nq, .ref dq, .ref pq, .int pl, .int bl, .int tb])), (sq, .inr (4, [.int mc_sq, .ref tE, .int 0]))])) (va_Qi (fun (r : Int32) (_ : Unit) => False) (fun _ t => Pst dC dI [] (va_A [(h0, .inr (10, [.ref fq, .ref sq, .ref gq, .ref nq, .ref dq, .ref pq, .int pl, .int bl, .int tb])), (sq, .inr (4, [.int mc_sq, .ref tE, .int 0]))] sz) [(h0, .inr (10, [.ref fq, .ref sq, .ref gq, .ref nq, .ref dq, .ref pq, .int pl, .int bl, .int tb])), (sq, .inr (4, [.int mc_sq, .ref tE, .int 0]))] t) (va_A [(h0, .inr (10, [.ref fq, .ref sq, .ref gq, .ref nq, .ref dq, .ref pq, .int pl, .int bl, .int tb])), (sq, .inr (4, [.int mc_sq, .ref tE, .int 0]))] sz)) (vx_X (fun _ : Unit => True) (fun E _ t => E = "java/lang/IndexOutOfBoundsException" ∧ Pst dC dI [] (va_A [(h0, .inr (10, [.ref fq, .ref sq, .ref gq, .ref nq, .ref dq, .ref pq, .int pl, .int bl, .int tb])), (sq, .inr (4, [.int mc_sq, .ref tE, .int 0]))] sz) [(h0, .inr (10, [.ref fq, .ref sq, .ref gq, .ref nq, .ref dq, .ref pq, .int pl, .int bl, .int tb])), (sq, .inr (4, [.int mc_sq, .ref tE, .int 0]))] t) (va_A [(h0, .inr (10, [.ref fq, .ref sq, .ref gq, .ref nq, .ref dq, .ref pq, .int pl, .int bl, .int tb])), (sq, .inr (4, [.int mc_sq, .ref tE, .int 0]))] sz)) 1 6 (va_A [(h0, .inr (10, [.ref fq, .ref sq, .ref gq, .ref nq, .ref dq, .ref pq, .int pl, .int bl, .int tb])), (sq, .inr (4, [.int mc_sq, .ref tE, .int 0]))] sz) := by
  refine vx_ofW (cc := cX5_setDoor) (maxL := 6) (ret := (some .int)) (by decide) rfl ?_
  intro p e s m args below meth c s₁ B hml hEx hv
  obtain ⟨rfl, hsz, hP, hK, hD0, hT⟩ := hv
  have hx := B.exec
  have hb := B.bytes
  have hr := B.returns
  have hts := atoms_spec (ws := v_c_setDoor) B.pre
  have hown : s.vm.findClass RX5 = some m.cls := findClass_of_methodNamed B.named
  have hlocks := B.notSynchronized
  subst hsz
  have hD := hD0.self (sz := s.heap.size)
  generalize hAe : va_A [(h0, .inr (10, [.ref fq, .ref sq, .ref gq, .ref nq, .ref dq, .ref pq, .int pl, .int bl, .int tb])), (sq, .inr (4, [.int mc_sq, .ref tE, .int 0]))] s.heap.size = A at hD hT ⊢
  have hA : ∀ q : Nat, s.heap.size ≤ q → A q := fun q h => by rw [← hAe]; exact Or.inr h
  have hS : va_S A s.heap s.heap [] := va_S.rf
  have hl := lv_entry ([.ref h0, .int p0, .int p1, .int p2]) (n := 6) (Nat.le_of_ble_eq_true rfl)
  rw [lg_entry_eq]
  generalize (lg_sl ([.ref h0, .int p0, .int p1, .int p2]) ++ List.replicate (6 - (lg_sl ([.ref h0, .int p0, .int p1, .int p2])).length) Slot.unset).toArray = ls at hl ⊢
  have hl : lv_has ls 6 [(0, .ref h0), (1, .int p0), (2, .int p1), (3, .int p2)] := hl
  refine lv_aload_n hx hb dX5_setDoor_0 rfl (lv_at hl 0 rfl) ?_
  refine lv_iload_n hx hb dX5_setDoor_1 rfl (lv_at hl 1 rfl) ?_
  have hPc := hP.sub (ws' := [(h0, .inr (10, [.ref fq, .ref sq, .ref gq, .ref nq, .ref dq, .ref pq, .int pl, .int bl, .int tb])), (sq, .inr (4, [.int mc_sq, .ref tE, .int 0]))]) [0, 1] rfl
  have hDc := hD.sub (ws' := [(h0, .inr (10, [.ref fq, .ref sq, .ref gq, .ref nq, .ref dq, .ref pq, .int pl, .int bl, .int tb])), (sq, .inr (4, [.int mc_sq, .ref tE, .int 0]))]) [0, 1] (by decide) rfl
  have hKc := hK.sub (tys' := []) [] rfl
  have hFc := va_free (wc := [(h0, .inr (10, [.ref fq, .ref sq, .ref gq, .ref nq, .ref dq, .ref pq, .int pl, .int bl, .int tb])), (sq, .inr (4, [.int mc_sq, .ref tE, .int 0]))]) hD hS hA [0, 1] rfl
  refine va_calli (va_runV (As := [.int p0]) (rest := []) ⟨hx, hb, hml, hown, hts⟩ (c_isLift l hl9 dC dI tE h0 fq sq gq nq dq pq pl bl tb mc_sq p0 _ ) (cwV 1 hts (goodIn_app (goodIn_r _ [9, 10, 11, 12] (by rfl) (by decide +kernel)) gg_c_setDoor_c_isLift) rfl rfl rfl (by decide +kernel) ⟨Nat.le_of_ble_eq_true rfl, Nat.le_of_ble_eq_true rfl⟩) ⟨Pre0.blind, va_recv hKc hPc (ci := 10) (q0 := 0) rfl rfl, Pre0.give hPc hKc hDc hT hS hFc⟩ rfl rfl hl.1 rfl (lv_room (Nat.le_of_ble_eq_true rfl)) dX5_setDoor_2 ⟨Nat.le_of_ble_eq_true rfl, Nat.le_of_ble_eq_true rfl⟩) hS (fun q _ h => hFc q h) hFc (fun r_1 u t H1 locs ht hvm hw hB hz1 hk1 hS => ?_)
  obtain ⟨hP1, hK1, hD1⟩ := hB
  rw [ht] at hP1
  have hK1 := va_K.moved hvm.symm hK1
  obtain ⟨hP, hD⟩ := va_join (wr := []) (w1 := [(h0, .inr (10, [.ref fq, .ref sq, .ref gq, .ref nq, .ref dq, .ref pq, .int pl, .int bl, .int tb])), (sq, .inr (4, [.int mc_sq, .ref tE, .int 0]))]) hP hD [0, 1] [] rfl rfl (by decide) (by decide) hk1 hFc hP1 hD1
  generalize H1 = H at hP hS ⊢
  have hP : va_P (dC, dI) vwCl [(h0, .inr (10, [.ref fq, .ref sq, .ref gq, .ref nq, .ref dq, .ref pq, .int pl, .int bl, .int tb])), (sq, .inr (4, [.int mc_sq, .ref tE, .int 0]))] H := hP
  have hD : va_D A [(h0, .inr (10, [.ref fq, .ref sq, .ref gq, .ref nq, .ref dq, .ref pq, .int pl, .int bl, .int tb])), (sq, .inr (4, [.int mc_sq, .ref tE, .int 0]))] := hD
  refine W.widen (k := 0) (n := 0) (by omega) (by omega) ?_
  obtain rfl : r_1 = 0 := hw
  refine lv_if_eq (tgt := 16) hx hb dX5_setDoor_5 (by decide) (fun _ => ?_) (fun c_2 => absurd (by decide) c_2)
  have hP9 := hP.sub (ws' := [(h0, .inr (10, [.ref fq, .ref sq, .ref gq, .ref nq, .ref dq, .ref pq, .int pl, .int bl, .int tb])), (sq, .inr (4, [.int mc_sq, .ref tE, .int 0]))]) [0, 1] rfl
  have hD9 := hD.sub (ws' := [(h0, .inr (10, [.ref fq, .ref sq, .ref gq, .ref nq, .ref dq, .ref pq, .int pl, .int bl, .int tb])), (sq, .inr (4, [.int mc_sq, .ref tE, .int 0]))]) [0, 1] (by decide) rfl
  have hK9 := hK.sub (tys' := []) [] rfl
  obtain ⟨sa, hstr⟩ := hT.s106
  exact vx_throwS (own := RX5) (cls := "java/lang/IndexOutOfBoundsException") (names := ["java/lang/RuntimeException", "java/lang/Exception"]) hx hb hl9 hown (by decide +kernel) (by decide +kernel) (hts (.classLink RX5 71 "java/lang/IndexOutOfBoundsException") (List.mem_of_getElem? (i := 13) rfl)) (hts (.initialized "java/lang/IndexOutOfBoundsException") (List.mem_of_getElem? (i := 14) rfl)) hstr (vx_hat (L := vx_atS RX5 75 "java/lang/IndexOutOfBoundsException" ["java/lang/RuntimeException", "java/lang/Exception"]) (B := [.castable "java/lang/IndexOutOfBoundsException" "java/lang/IndexOutOfBoundsException", .declares ⟨"java/lang/RuntimeException", "<init>", "(Ljava/lang/String;)V"⟩, .declares ⟨"java/lang/Exception", "<init>", "(Ljava/lang/String;)V"⟩, .declares ⟨"java/lang/Throwable", "<init>", "(Ljava/lang/String;)V"⟩]) (fun w hw => hts w (List.mem_append_right _ hw)) (by decide +kernel) (vx_c (va_Nw.use rfl hT.eX) (vx_c (va_Nw.use rfl hT.d1) (vx_c (va_Nw.use rfl hT.d2) (vx_c (va_Nw.use rfl hT.d3) (vx_n)))))) (by decide +kernel) hT.zU hT.zS hS (hl.1.trans hml.symm) dX5_setDoor_16 dX5_setDoor_19 dX5_setDoor_20 dX5_setDoor_22 dX5_setDoor_25 (fun x hx => (hEx x hx).elim) (Nat.le_of_ble_eq_true rfl) (Nat.le_of_ble_eq_true rfl) (Nat.le_of_ble_eq_true rfl) (Nat.le_of_ble_eq_true rfl) hlocks (fun t ha hsz hk => ⟨(), trivial, ⟨rfl, hP9.kept (fun k q hq => hk q.1 (hP9 k q hq).lt), va_K.moved ha hK9, hD9⟩, Nat.le_trans hS.1 hsz, fun q h1 h2 => (hk q (Nat.lt_of_lt_of_le h1 hS.1)).trans (hS.2.1 q h1 h2)⟩) hS.2.2 (Nat.le_of_ble_eq_true rfl) (Nat.le_of_ble_eq_true rfl)
def vh_c_want : List Cond := .code yX5_want cX5_want 5 (some .boolean) :: ([Cond.code yX5_isGuest cX5_isGuest 2 (some .boolean), Cond.fieldLink RX5 19 "HotelOfBells" "guests" "Ljava/util/ArrayList;", Cond.code yJx4a65c_size_8abf5 cJx4a65c_size_8abf5 1 (some .int), Cond.fieldLink RJx4a65c 48 "java/util/ArrayList" "size" "I", Cond.methodLink RX5 49 yJx4a65c_size_8abf5, Cond.instanceMethod yJx4a65c_size_8abf5, Cond.selects RJx4a65c yJx4a65c_size_8abf5 yJx4a65c_size_8abf5, Cond.initialized RJx4a65c, Cond.methodLink RX5 132 yX5_isGuest, Cond.instanceMethod yX5_isGuest, Cond.selects RX5 yX5_isGuest yX5_isGuest, Cond.initialized RX5, Cond.classLink RX5 71 "java/lang/IndexOutOfBoundsException", Cond.initialized "java/lang/IndexOutOfBoundsException"] ++ (wsX50 ++ (wsJx4a65c0 ++ [])))
def v_c_want : List Cond := vh_c_want ++ (thrX)
theorem u_c_want_X5 : ∀ w ∈ wsX50, w ∈ v_c_want := fun _ h => List.mem_append_left _ (List.mem_cons_of_mem _ (List.mem_append_right _ (List.mem_append_left _ h)))
theorem u_c_want_Jx4a65c : ∀ w ∈ wsJx4a65c0, w ∈ v_c_want := fun _ h => List.mem_append_left _ (List.mem_cons_of_mem _ (List.mem_append_right _ (List.mem_append_right _ (List.mem_append_left _ h))))
theorem gg_c_want_c_isGuest : GoodIn v_c_want v_c_isGuest := goodIn_r _ [1, 2, 3, 4, 5, 6, 7, 8, 15, 16, 17, 18, 19, 20, 21, 22, 23, 24, 25, 26] (by rfl) (by decide +kernel)
set_option maxHeartbeats 4000000 in
set_option maxRecDepth 100000 in
theorem c_want (l : Launch) (hl9 : l.stackTraces = false) (dC : Nat → ClassId) (dI : Nat → Nat → Nat) (tE : Nat) (h0 : Nat) (fq : Nat) (sq : Nat) (gq : Nat) (nq : Nat) (dq : Nat) (pq : Nat) (pl : Int32) (bl : Int32) (tb : Int32) (mc_gq : Int32) (p0 : Int32) (p1 : Int32) (p2 : Int32) (sz : Nat) : vx_Met l yX5_want v_c_want ({ frames := 6, cells := 1, slots := 6, locals := 90 }) (va_Pc [.ref h0, .int p0, .int p1, .int p2] (Pre0 dC dI tE sz [] [(h0, .inr (10, [.ref fq, .ref sq, .ref gq, .ref nq, .ref dq, .ref pq, .int pl, .int bl, .int tb])), (gq, .inr (4, [.int mc_gq, .ref tE, .int 0]))])) (va_Qi (fun (r : Int32) (_ : Unit) => False) (fun _ t => Pst dC dI [] (va_A [(h0, .inr (10, [.ref fq, .ref sq, .ref gq, .ref nq, .ref dq, .ref pq, .int pl, .int bl, .int tb])), (gq, .inr (4, [.int mc_gq, .ref tE, .int 0]))] sz) [(h0, .inr (10, [.ref fq, .ref sq, .ref gq, .ref nq, .ref dq, .ref pq, .int pl, .int bl, .int tb])), (gq, .inr (4, [.int mc_gq, .ref tE, .int 0]))] t) (va_A [(h0, .inr (10, [.ref fq, .ref sq, .ref gq, .ref nq, .ref dq, .ref pq, .int pl, .int bl, .int tb])), (gq, .inr (4, [.int mc_gq, .ref tE, .int 0]))] sz)) (vx_X (fun _ : Unit => True) (fun E _ t => E = "java/lang/IndexOutOfBoundsException" ∧ Pst dC dI [] (va_A [(h0, .inr (10, [.ref fq, .ref sq, .ref gq, .ref nq, .ref dq, .ref pq, .int pl, .int bl, .int tb])), (gq, .inr (4, [.int mc_gq, .ref tE, .int 0]))] sz) [(h0, .inr (10, [.ref fq, .ref sq, .ref gq, .ref nq, .ref dq, .ref pq, .int pl, .int bl, .int tb])), (gq, .inr (4, [.int mc_gq, .ref tE, .int 0]))] t) (va_A [(h0, .inr (10, [.ref fq, .ref sq, .ref gq, .ref nq, .ref dq, .ref pq, .int pl, .int bl, .int tb])), (gq, .inr (4, [.int mc_gq, .ref tE, .int 0]))] sz)) 1 6 (va_A [(h0, .inr (10, [.ref fq, .ref sq, .ref gq, .ref nq, .ref dq, .ref pq, .int pl, .int bl, .int tb])), (gq, .inr (4, [.int mc_gq, .ref tE, .int 0]))] sz) := by
  refine vx_ofW (cc := cX5_want) (maxL := 5) (ret := (some .boolean)) (by decide) rfl ?_
  intro p e s m args below meth c s₁ B hml hEx hv
  obtain ⟨rfl, hsz, hP, hK, hD0, hT⟩ := hv
  have hx := B.exec
  have hb := B.bytes
  have hr := B.returns
  have hts := atoms_spec (ws := v_c_want) B.pre
  have hown : s.vm.findClass RX5 = some m.cls := findClass_of_methodNamed B.named
  have hlocks := B.notSynchronized
  subst hsz
  have hD := hD0.self (sz := s.heap.size)
  generalize hAe : va_A [(h0, .inr (10, [.ref fq, .ref sq, .ref gq, .ref nq, .ref dq, .ref pq, .int pl, .int bl, .int tb])), (gq, .inr (4, [.int mc_gq, .ref tE, .int 0]))] s.heap.size = A at hD hT ⊢
  have hA : ∀ q : Nat, s.heap.size ≤ q → A q := fun q h => by rw [← hAe]; exact Or.inr h
  have hS : va_S A s.heap s.heap [] := va_S.rf
  have hl := lv_entry ([.ref h0, .int p0, .int p1, .int p2]) (n := 5) (Nat.le_of_ble_eq_true rfl)
  rw [lg_entry_eq]
  generalize (lg_sl ([.ref h0, .int p0, .int p1, .int p2]) ++ List.replicate (5 - (lg_sl ([.ref h0, .int p0, .int p1, .int p2])).length) Slot.unset).toArray = ls at hl ⊢
  have hl : lv_has ls 5 [(0, .ref h0), (1, .int p0), (2, .int p1), (3, .int p2)] := hl
  refine lv_aload_n hx hb dX5_want_0 rfl (lv_at hl 0 rfl) ?_
  refine lv_iload_n hx hb dX5_want_1 rfl (lv_at hl 1 rfl) ?_
  have hPc := hP.sub (ws' := [(h0, .inr (10, [.ref fq, .ref sq, .ref gq, .ref nq, .ref dq, .ref pq, .int pl, .int bl, .int tb])), (gq, .inr (4, [.int mc_gq, .ref tE, .int 0]))]) [0, 1] rfl
  have hDc := hD.sub (ws' := [(h0, .inr (10, [.ref fq, .ref sq, .ref gq, .ref nq, .ref dq, .ref pq, .int pl, .int bl, .int tb])), (gq, .inr (4, [.int mc_gq, .ref tE, .int 0]))]) [0, 1] (by decide) rfl
  have hKc := hK.sub (tys' := []) [] rfl
  have hFc := va_free (wc := [(h0, .inr (10, [.ref fq, .ref sq, .ref gq, .ref nq, .ref dq, .ref pq, .int pl, .int bl, .int tb])), (gq, .inr (4, [.int mc_gq, .ref tE, .int 0]))]) hD hS hA [0, 1] rfl
  refine va_calli (va_runV (As := [.int p0]) (rest := []) ⟨hx, hb, hml, hown, hts⟩ (c_isGuest l hl9 dC dI tE h0 fq sq gq nq dq pq pl bl tb mc_gq p0 _ ) (cwV 1 hts (goodIn_app (goodIn_r _ [9, 10, 11, 12] (by rfl) (by decide +kernel)) gg_c_want_c_isGuest) rfl rfl rfl (by decide +kernel) ⟨Nat.le_of_ble_eq_true rfl, Nat.le_of_ble_eq_true rfl⟩) ⟨Pre0.blind, va_recv hKc hPc (ci := 10) (q0 := 0) rfl rfl, Pre0.give hPc hKc hDc hT hS hFc⟩ rfl rfl hl.1 rfl (lv_room (Nat.le_of_ble_eq_true rfl)) dX5_want_2 ⟨Nat.le_of_ble_eq_true rfl, Nat.le_of_ble_eq_true rfl⟩) hS (fun q _ h => hFc q h) hFc (fun r_1 u t H1 locs ht hvm hw hB hz1 hk1 hS => ?_)
  obtain ⟨hP1, hK1, hD1⟩ := hB
  rw [ht] at hP1
  have hK1 := va_K.moved hvm.symm hK1
  obtain ⟨hP, hD⟩ := va_join (wr := []) (w1 := [(h0, .inr (10, [.ref fq, .ref sq, .ref gq, .ref nq, .ref dq, .ref pq, .int pl, .int bl, .int tb])), (gq, .inr (4, [.int mc_gq, .ref tE, .int 0]))]) hP hD [0, 1] [] rfl rfl (by decide) (by decide) hk1 hFc hP1 hD1
  generalize H1 = H at hP hS ⊢
  have hP : va_P (dC, dI) vwCl [(h0, .inr (10, [.ref fq, .ref sq, .ref gq, .ref nq, .ref dq, .ref pq, .int pl, .int bl, .int tb])), (gq, .inr (4, [.int mc_gq, .ref tE, .int 0]))] H := hP
  have hD : va_D A [(h0, .inr (10, [.ref fq, .ref sq, .ref gq, .ref nq, .ref dq, .ref pq, .int pl, .int bl, .int tb])), (gq, .inr (4, [.int mc_gq, .ref tE, .int 0]))] := hD
  refine W.widen (k := 0) (n := 0) (by omega) (by omega) ?_
  obtain rfl : r_1 = 0 := hw
  refine lv_if_eq (tgt := 17) hx hb dX5_want_5 (by decide) (fun _ => ?_) (fun c_2 => absurd (by decide) c_2)
  have hP9 := hP.sub (ws' := [(h0, .inr (10, [.ref fq, .ref sq, .ref gq, .ref nq, .ref dq, .ref pq, .int pl, .int bl, .int tb])), (gq, .inr (4, [.int mc_gq, .ref tE, .int 0]))]) [0, 1] rfl
  have hD9 := hD.sub (ws' := [(h0, .inr (10, [.ref fq, .ref sq, .ref gq, .ref nq, .ref dq, .ref pq, .int pl, .int bl, .int tb])), (gq, .inr (4, [.int mc_gq, .ref tE, .int 0]))]) [0, 1] (by decide) rfl
  have hK9 := hK.sub (tys' := []) [] rfl
  obtain ⟨sa, hstr⟩ := hT.s135
  exact vx_throwS (own := RX5) (cls := "java/lang/IndexOutOfBoundsException") (names := ["java/lang/RuntimeException", "java/lang/Exception"]) hx hb hl9 hown (by decide +kernel) (by decide +kernel) (hts (.classLink RX5 71 "java/lang/IndexOutOfBoundsException") (List.mem_of_getElem? (i := 13) rfl)) (hts (.initialized "java/lang/IndexOutOfBoundsException") (List.mem_of_getElem? (i := 14) rfl)) hstr (vx_hat (L := vx_atS RX5 75 "java/lang/IndexOutOfBoundsException" ["java/lang/RuntimeException", "java/lang/Exception"]) (B := [.castable "java/lang/IndexOutOfBoundsException" "java/lang/IndexOutOfBoundsException", .declares ⟨"java/lang/RuntimeException", "<init>", "(Ljava/lang/String;)V"⟩, .declares ⟨"java/lang/Exception", "<init>", "(Ljava/lang/String;)V"⟩, .declares ⟨"java/lang/Throwable", "<init>", "(Ljava/lang/String;)V"⟩]) (fun w hw => hts w (List.mem_append_right _ hw)) (by decide +kernel) (vx_c (va_Nw.use rfl hT.eX) (vx_c (va_Nw.use rfl hT.d1) (vx_c (va_Nw.use rfl hT.d2) (vx_c (va_Nw.use rfl hT.d3) (vx_n)))))) (by decide +kernel) hT.zU hT.zS hS (hl.1.trans hml.symm) dX5_want_17 dX5_want_20 dX5_want_21 dX5_want_23 dX5_want_26 (fun x hx => (hEx x hx).elim) (Nat.le_of_ble_eq_true rfl) (Nat.le_of_ble_eq_true rfl) (Nat.le_of_ble_eq_true rfl) (Nat.le_of_ble_eq_true rfl) hlocks (fun t ha hsz hk => ⟨(), trivial, ⟨rfl, hP9.kept (fun k q hq => hk q.1 (hP9 k q hq).lt), va_K.moved ha hK9, hD9⟩, Nat.le_trans hS.1 hsz, fun q h1 h2 => (hk q (Nat.lt_of_lt_of_le h1 hS.1)).trans (hS.2.1 q h1 h2)⟩) hS.2.2 (Nat.le_of_ble_eq_true rfl) (Nat.le_of_ble_eq_true rfl)
def vh_c_lift : List Cond := .code yX5_lift cX5_lift 3 (some .int) :: ([Cond.code yX5_isLift cX5_isLift 2 (some .boolean), Cond.fieldLink RX5 16 "HotelOfBells" "shafts" "Ljava/util/ArrayList;", Cond.code yJx4a65c_size_8abf5 cJx4a65c_size_8abf5 1 (some .int), Cond.fieldLink RJx4a65c 48 "java/util/ArrayList" "size" "I", Cond.methodLink RX5 49 yJx4a65c_size_8abf5, Cond.instanceMethod yJx4a65c_size_8abf5, Cond.selects RJx4a65c yJx4a65c_size_8abf5 yJx4a65c_size_8abf5, Cond.initialized RJx4a65c, Cond.methodLink RX5 103 yX5_isLift, Cond.instanceMethod yX5_isLift, Cond.selects RX5 yX5_isLift yX5_isLift, Cond.initialized RX5, Cond.classLink RX5 71 "java/lang/IndexOutOfBoundsException", Cond.initialized "java/lang/IndexOutOfBoundsException"] ++ (wsX50 ++ (wsJx4a65c0 ++ [])))
def v_c_lift : List Cond := vh_c_lift ++ (thrX)
theorem u_c_lift_X5 : ∀ w ∈ wsX50, w ∈ v_c_lift := fun _ h => List.mem_append_left _ (List.mem_cons_of_mem _ (List.mem_append_right _ (List.mem_append_left _ h)))
theorem u_c_lift_Jx4a65c : ∀ w ∈ wsJx4a65c0, w ∈ v_c_lift := fun _ h => List.mem_append_left _ (List.mem_cons_of_mem _ (List.mem_append_right _ (List.mem_append_right _ (List.mem_append_left _ h))))
theorem gg_c_lift_c_isLift : GoodIn v_c_lift v_c_isLift := goodIn_r _ [1, 2, 3, 4, 5, 6, 7, 8, 15, 16, 17, 18, 19, 20, 21, 22, 23, 24, 25, 26] (by rfl) (by decide +kernel)
set_option maxHeartbeats 4000000 in
set_option maxRecDepth 100000 in
theorem c_lift (l : Launch) (hl9 : l.stackTraces = false) (dC : Nat → ClassId) (dI : Nat → Nat → Nat) (tE : Nat) (h0 : Nat) (fq : Nat) (sq : Nat) (gq : Nat) (nq : Nat) (dq : Nat) (pq : Nat) (pl : Int32) (bl : Int32) (tb : Int32) (mc_sq : Int32) (p0 : Int32) (p1 : Int32) (sz : Nat) : vx_Met l yX5_lift v_c_lift ({ frames := 6, cells := 1, slots := 6, locals := 90 }) (va_Pc [.ref h0, .int p0, .int p1] (Pre0 dC dI tE sz [] [(h0, .inr (10, [.ref fq, .ref sq, .ref gq, .ref nq, .ref dq, .ref pq, .int pl, .int bl, .int tb])), (sq, .inr (4, [.int mc_sq, .ref tE, .int 0]))])) (va_Qi (fun (r : Int32) (_ : Unit) => False) (fun _ t => Pst dC dI [] (va_A [(h0, .inr (10, [.ref fq, .ref sq, .ref gq, .ref nq, .ref dq, .ref pq, .int pl, .int bl, .int tb])), (sq, .inr (4, [.int mc_sq, .ref tE, .int 0]))] sz) [(h0, .inr (10, [.ref fq, .ref sq, .ref gq, .ref nq, .ref dq, .ref pq, .int pl, .int bl, .int tb])), (sq, .inr (4, [.int mc_sq, .ref tE, .int 0]))] t) (va_A [(h0, .inr (10, [.ref fq, .ref sq, .ref gq, .ref nq, .ref dq, .ref pq, .int pl, .int bl, .int tb])), (sq, .inr (4, [.int mc_sq, .ref tE, .int 0]))] sz)) (vx_X (fun _ : Unit => True) (fun E _ t => E = "java/lang/IndexOutOfBoundsException" ∧ Pst dC dI [] (va_A [(h0, .inr (10, [.ref fq, .ref sq, .ref gq, .ref nq, .ref dq, .ref pq, .int pl, .int bl, .int tb])), (sq, .inr (4, [.int mc_sq, .ref tE, .int 0]))] sz) [(h0, .inr (10, [.ref fq, .ref sq, .ref gq, .ref nq, .ref dq, .ref pq, .int pl, .int bl, .int tb])), (sq, .inr (4, [.int mc_sq, .ref tE, .int 0]))] t) (va_A [(h0, .inr (10, [.ref fq, .ref sq, .ref gq, .ref nq, .ref dq, .ref pq, .int pl, .int bl, .int tb])), (sq, .inr (4, [.int mc_sq, .ref tE, .int 0]))] sz)) 1 6 (va_A [(h0, .inr (10, [.ref fq, .ref sq, .ref gq, .ref nq, .ref dq, .ref pq, .int pl, .int bl, .int tb])), (sq, .inr (4, [.int mc_sq, .ref tE, .int 0]))] sz) := by
  refine vx_ofW (cc := cX5_lift) (maxL := 3) (ret := (some .int)) (by decide) rfl ?_
  intro p e s m args below meth c s₁ B hml hEx hv
  obtain ⟨rfl, hsz, hP, hK, hD0, hT⟩ := hv
  have hx := B.exec
  have hb := B.bytes
  have hr := B.returns
  have hts := atoms_spec (ws := v_c_lift) B.pre
  have hown : s.vm.findClass RX5 = some m.cls := findClass_of_methodNamed B.named
  have hlocks := B.notSynchronized
  subst hsz
  have hD := hD0.self (sz := s.heap.size)
  generalize hAe : va_A [(h0, .inr (10, [.ref fq, .ref sq, .ref gq, .ref nq, .ref dq, .ref pq, .int pl, .int bl, .int tb])), (sq, .inr (4, [.int mc_sq, .ref tE, .int 0]))] s.heap.size = A at hD hT ⊢
  have hA : ∀ q : Nat, s.heap.size ≤ q → A q := fun q h => by rw [← hAe]; exact Or.inr h
  have hS : va_S A s.heap s.heap [] := va_S.rf
  have hl := lv_entry ([.ref h0, .int p0, .int p1]) (n := 3) (Nat.le_of_ble_eq_true rfl)
  rw [lg_entry_eq]
  generalize (lg_sl ([.ref h0, .int p0, .int p1]) ++ List.replicate (3 - (lg_sl ([.ref h0, .int p0, .int p1])).length) Slot.unset).toArray = ls at hl ⊢
  have hl : lv_has ls 3 [(0, .ref h0), (1, .int p0), (2, .int p1)] := hl
  refine lv_aload_n hx hb dX5_lift_0 rfl (lv_at hl 0 rfl) ?_
  refine lv_iload_n hx hb dX5_lift_1 rfl (lv_at hl 1 rfl) ?_
  have hPc := hP.sub (ws' := [(h0, .inr (10, [.ref fq, .ref sq, .ref gq, .ref nq, .ref dq, .ref pq, .int pl, .int bl, .int tb])), (sq, .inr (4, [.int mc_sq, .ref tE, .int 0]))]) [0, 1] rfl
  have hDc := hD.sub (ws' := [(h0, .inr (10, [.ref fq, .ref sq, .ref gq, .ref nq, .ref dq, .ref pq, .int pl, .int bl, .int tb])), (sq, .inr (4, [.int mc_sq, .ref tE, .int 0]))]) [0, 1] (by decide) rfl
  have hKc := hK.sub (tys' := []) [] rfl
  have hFc := va_free (wc := [(h0, .inr (10, [.ref fq, .ref sq, .ref gq, .ref nq, .ref dq, .ref pq, .int pl, .int bl, .int tb])), (sq, .inr (4, [.int mc_sq, .ref tE, .int 0]))]) hD hS hA [0, 1] rfl
  refine va_calli (va_runV (As := [.int p0]) (rest := []) ⟨hx, hb, hml, hown, hts⟩ (c_isLift l hl9 dC dI tE h0 fq sq gq nq dq pq pl bl tb mc_sq p0 _ ) (cwV 1 hts (goodIn_app (goodIn_r _ [9, 10, 11, 12] (by rfl) (by decide +kernel)) gg_c_lift_c_isLift) rfl rfl rfl (by decide +kernel) ⟨Nat.le_of_ble_eq_true rfl, Nat.le_of_ble_eq_true rfl⟩) ⟨Pre0.blind, va_recv hKc hPc (ci := 10) (q0 := 0) rfl rfl, Pre0.give hPc hKc hDc hT hS hFc⟩ rfl rfl hl.1 rfl (lv_room (Nat.le_of_ble_eq_true rfl)) dX5_lift_2 ⟨Nat.le_of_ble_eq_true rfl, Nat.le_of_ble_eq_true rfl⟩) hS (fun q _ h => hFc q h) hFc (fun r_1 u t H1 locs ht hvm hw hB hz1 hk1 hS => ?_)
  obtain ⟨hP1, hK1, hD1⟩ := hB
  rw [ht] at hP1
  have hK1 := va_K.moved hvm.symm hK1
  obtain ⟨hP, hD⟩ := va_join (wr := []) (w1 := [(h0, .inr (10, [.ref fq, .ref sq, .ref gq, .ref nq, .ref dq, .ref pq, .int pl, .int bl, .int tb])), (sq, .inr (4, [.int mc_sq, .ref tE, .int 0]))]) hP hD [0, 1] [] rfl rfl (by decide) (by decide) hk1 hFc hP1 hD1
  generalize H1 = H at hP hS ⊢
  have hP : va_P (dC, dI) vwCl [(h0, .inr (10, [.ref fq, .ref sq, .ref gq, .ref nq, .ref dq, .ref pq, .int pl, .int bl, .int tb])), (sq, .inr (4, [.int mc_sq, .ref tE, .int 0]))] H := hP
  have hD : va_D A [(h0, .inr (10, [.ref fq, .ref sq, .ref gq, .ref nq, .ref dq, .ref pq, .int pl, .int bl, .int tb])), (sq, .inr (4, [.int mc_sq, .ref tE, .int 0]))] := hD
  refine W.widen (k := 0) (n := 0) (by omega) (by omega) ?_
  obtain rfl : r_1 = 0 := hw
  refine lv_if_ne (tgt := 18) hx hb dX5_lift_5 (by decide) (fun c_2 => absurd (by decide) c_2) (fun _ => ?_)
  have hP9 := hP.sub (ws' := [(h0, .inr (10, [.ref fq, .ref sq, .ref gq, .ref nq, .ref dq, .ref pq, .int pl, .int bl, .int tb])), (sq, .inr (4, [.int mc_sq, .ref tE, .int 0]))]) [0, 1] rfl
  have hD9 := hD.sub (ws' := [(h0, .inr (10, [.ref fq, .ref sq, .ref gq, .ref nq, .ref dq, .ref pq, .int pl, .int bl, .int tb])), (sq, .inr (4, [.int mc_sq, .ref tE, .int 0]))]) [0, 1] (by decide) rfl
  have hK9 := hK.sub (tys' := []) [] rfl
  obtain ⟨sa, hstr⟩ := hT.s168
  exact vx_throwS (own := RX5) (cls := "java/lang/IndexOutOfBoundsException") (names := ["java/lang/RuntimeException", "java/lang/Exception"]) hx hb hl9 hown (by decide +kernel) (by decide +kernel) (hts (.classLink RX5 71 "java/lang/IndexOutOfBoundsException") (List.mem_of_getElem? (i := 13) rfl)) (hts (.initialized "java/lang/IndexOutOfBoundsException") (List.mem_of_getElem? (i := 14) rfl)) hstr (vx_hat (L := vx_atS RX5 75 "java/lang/IndexOutOfBoundsException" ["java/lang/RuntimeException", "java/lang/Exception"]) (B := [.castable "java/lang/IndexOutOfBoundsException" "java/lang/IndexOutOfBoundsException", .declares ⟨"java/lang/RuntimeException", "<init>", "(Ljava/lang/String;)V"⟩, .declares ⟨"java/lang/Exception", "<init>", "(Ljava/lang/String;)V"⟩, .declares ⟨"java/lang/Throwable", "<init>", "(Ljava/lang/String;)V"⟩]) (fun w hw => hts w (List.mem_append_right _ hw)) (by decide +kernel) (vx_c (va_Nw.use rfl hT.eX) (vx_c (va_Nw.use rfl hT.d1) (vx_c (va_Nw.use rfl hT.d2) (vx_c (va_Nw.use rfl hT.d3) (vx_n)))))) (by decide +kernel) hT.zU hT.zS hS (hl.1.trans hml.symm) dX5_lift_8 dX5_lift_11 dX5_lift_12 dX5_lift_14 dX5_lift_17 (fun x hx => (hEx x hx).elim) (Nat.le_of_ble_eq_true rfl) (Nat.le_of_ble_eq_true rfl) (Nat.le_of_ble_eq_true rfl) (Nat.le_of_ble_eq_true rfl) hlocks (fun t ha hsz hk => ⟨(), trivial, ⟨rfl, hP9.kept (fun k q hq => hk q.1 (hP9 k q hq).lt), va_K.moved ha hK9, hD9⟩, Nat.le_trans hS.1 hsz, fun q h1 h2 => (hk q (Nat.lt_of_lt_of_le h1 hS.1)).trans (hS.2.1 q h1 h2)⟩) hS.2.2 (Nat.le_of_ble_eq_true rfl) (Nat.le_of_ble_eq_true rfl)
def vh_c_guest : List Cond := .code yX5_guest cX5_guest 4 (some .int) :: ([Cond.code yX5_isGuest cX5_isGuest 2 (some .boolean), Cond.fieldLink RX5 19 "HotelOfBells" "guests" "Ljava/util/ArrayList;", Cond.code yJx4a65c_size_8abf5 cJx4a65c_size_8abf5 1 (some .int), Cond.fieldLink RJx4a65c 48 "java/util/ArrayList" "size" "I", Cond.methodLink RX5 49 yJx4a65c_size_8abf5, Cond.instanceMethod yJx4a65c_size_8abf5, Cond.selects RJx4a65c yJx4a65c_size_8abf5 yJx4a65c_size_8abf5, Cond.initialized RJx4a65c, Cond.methodLink RX5 132 yX5_isGuest, Cond.instanceMethod yX5_isGuest, Cond.selects RX5 yX5_isGuest yX5_isGuest, Cond.initialized RX5, Cond.classLink RX5 71 "java/lang/IndexOutOfBoundsException", Cond.initialized "java/lang/IndexOutOfBoundsException"] ++ (wsX50 ++ (wsJx4a65c0 ++ [])))
def v_c_guest : List Cond := vh_c_guest ++ (thrX)
theorem u_c_guest_X5 : ∀ w ∈ wsX50, w ∈ v_c_guest := fun _ h => List.mem_append_left _ (List.mem_cons_of_mem _ (List.mem_append_right _ (List.mem_append_left _ h)))
theorem u_c_guest_Jx4a65c : ∀ w ∈ wsJx4a65c0, w ∈ v_c_guest := fun _ h => List.mem_append_left _ (List.mem_cons_of_mem _ (List.mem_append_right _ (List.mem_append_right _ (List.mem_append_left _ h))))
theorem gg_c_guest_c_isGuest : GoodIn v_c_guest v_c_isGuest := goodIn_r _ [1, 2, 3, 4, 5, 6, 7, 8, 15, 16, 17, 18, 19, 20, 21, 22, 23, 24, 25, 26] (by rfl) (by decide +kernel)
set_option maxHeartbeats 4000000 in
set_option maxRecDepth 100000 in
theorem c_guest (l : Launch) (hl9 : l.stackTraces = false) (dC : Nat → ClassId) (dI : Nat → Nat → Nat) (tE : Nat) (h0 : Nat) (fq : Nat) (sq : Nat) (gq : Nat) (nq : Nat) (dq : Nat) (pq : Nat) (pl : Int32) (bl : Int32) (tb : Int32) (mc_gq : Int32) (p0 : Int32) (p1 : Int32) (sz : Nat) : vx_Met l yX5_guest v_c_guest ({ frames := 6, cells := 1, slots := 6, locals := 90 }) (va_Pc [.ref h0, .int p0, .int p1] (Pre0 dC dI tE sz [] [(h0, .inr (10, [.ref fq, .ref sq, .ref gq, .ref nq, .ref dq, .ref pq, .int pl, .int bl, .int tb])), (gq, .inr (4, [.int mc_gq, .ref tE, .int 0]))])) (va_Qi (fun (r : Int32) (_ : Unit) => False) (fun _ t => Pst dC dI [] (va_A [(h0, .inr (10, [.ref fq, .ref sq, .ref gq, .ref nq, .ref dq, .ref pq, .int pl, .int bl, .int tb])), (gq, .inr (4, [.int mc_gq, .ref tE, .int 0]))] sz) [(h0, .inr (10, [.ref fq, .ref sq, .ref gq, .ref nq, .ref dq, .ref pq, .int pl, .int bl, .int tb])), (gq, .inr (4, [.int mc_gq, .ref tE, .int 0]))] t) (va_A [(h0, .inr (10, [.ref fq, .ref sq, .ref gq, .ref nq, .ref dq, .ref pq, .int pl, .int bl, .int tb])), (gq, .inr (4, [.int mc_gq, .ref tE, .int 0]))] sz)) (vx_X (fun _ : Unit => True) (fun E _ t => E = "java/lang/IndexOutOfBoundsException" ∧ Pst dC dI [] (va_A [(h0, .inr (10, [.ref fq, .ref sq, .ref gq, .ref nq, .ref dq, .ref pq, .int pl, .int bl, .int tb])), (gq, .inr (4, [.int mc_gq, .ref tE, .int 0]))] sz) [(h0, .inr (10, [.ref fq, .ref sq, .ref gq, .ref nq, .ref dq, .ref pq, .int pl, .int bl, .int tb])), (gq, .inr (4, [.int mc_gq, .ref tE, .int 0]))] t) (va_A [(h0, .inr (10, [.ref fq, .ref sq, .ref gq, .ref nq, .ref dq, .ref pq, .int pl, .int bl, .int tb])), (gq, .inr (4, [.int mc_gq, .ref tE, .int 0]))] sz)) 1 6 (va_A [(h0, .inr (10, [.ref fq, .ref sq, .ref gq, .ref nq, .ref dq, .ref pq, .int pl, .int bl, .int tb])), (gq, .inr (4, [.int mc_gq, .ref tE, .int 0]))] sz) := by
  refine vx_ofW (cc := cX5_guest) (maxL := 4) (ret := (some .int)) (by decide) rfl ?_
  intro p e s m args below meth c s₁ B hml hEx hv
  obtain ⟨rfl, hsz, hP, hK, hD0, hT⟩ := hv
  have hx := B.exec
  have hb := B.bytes
  have hr := B.returns
  have hts := atoms_spec (ws := v_c_guest) B.pre
  have hown : s.vm.findClass RX5 = some m.cls := findClass_of_methodNamed B.named
  have hlocks := B.notSynchronized
  subst hsz
  have hD := hD0.self (sz := s.heap.size)
  generalize hAe : va_A [(h0, .inr (10, [.ref fq, .ref sq, .ref gq, .ref nq, .ref dq, .ref pq, .int pl, .int bl, .int tb])), (gq, .inr (4, [.int mc_gq, .ref tE, .int 0]))] s.heap.size = A at hD hT ⊢
  have hA : ∀ q : Nat, s.heap.size ≤ q → A q := fun q h => by rw [← hAe]; exact Or.inr h
  have hS : va_S A s.heap s.heap [] := va_S.rf
  have hl := lv_entry ([.ref h0, .int p0, .int p1]) (n := 4) (Nat.le_of_ble_eq_true rfl)
  rw [lg_entry_eq]
  generalize (lg_sl ([.ref h0, .int p0, .int p1]) ++ List.replicate (4 - (lg_sl ([.ref h0, .int p0, .int p1])).length) Slot.unset).toArray = ls at hl ⊢
  have hl : lv_has ls 4 [(0, .ref h0), (1, .int p0), (2, .int p1)] := hl
  refine lv_aload_n hx hb dX5_guest_0 rfl (lv_at hl 0 rfl) ?_
  refine lv_iload_n hx hb dX5_guest_1 rfl (lv_at hl 1 rfl) ?_
  have hPc := hP.sub (ws' := [(h0, .inr (10, [.ref fq, .ref sq, .ref gq, .ref nq, .ref dq, .ref pq, .int pl, .int bl, .int tb])), (gq, .inr (4, [.int mc_gq, .ref tE, .int 0]))]) [0, 1] rfl
  have hDc := hD.sub (ws' := [(h0, .inr (10, [.ref fq, .ref sq, .ref gq, .ref nq, .ref dq, .ref pq, .int pl, .int bl, .int tb])), (gq, .inr (4, [.int mc_gq, .ref tE, .int 0]))]) [0, 1] (by decide) rfl
  have hKc := hK.sub (tys' := []) [] rfl
  have hFc := va_free (wc := [(h0, .inr (10, [.ref fq, .ref sq, .ref gq, .ref nq, .ref dq, .ref pq, .int pl, .int bl, .int tb])), (gq, .inr (4, [.int mc_gq, .ref tE, .int 0]))]) hD hS hA [0, 1] rfl
  refine va_calli (va_runV (As := [.int p0]) (rest := []) ⟨hx, hb, hml, hown, hts⟩ (c_isGuest l hl9 dC dI tE h0 fq sq gq nq dq pq pl bl tb mc_gq p0 _ ) (cwV 1 hts (goodIn_app (goodIn_r _ [9, 10, 11, 12] (by rfl) (by decide +kernel)) gg_c_guest_c_isGuest) rfl rfl rfl (by decide +kernel) ⟨Nat.le_of_ble_eq_true rfl, Nat.le_of_ble_eq_true rfl⟩) ⟨Pre0.blind, va_recv hKc hPc (ci := 10) (q0 := 0) rfl rfl, Pre0.give hPc hKc hDc hT hS hFc⟩ rfl rfl hl.1 rfl (lv_room (Nat.le_of_ble_eq_true rfl)) dX5_guest_2 ⟨Nat.le_of_ble_eq_true rfl, Nat.le_of_ble_eq_true rfl⟩) hS (fun q _ h => hFc q h) hFc (fun r_1 u t H1 locs ht hvm hw hB hz1 hk1 hS => ?_)
  obtain ⟨hP1, hK1, hD1⟩ := hB
  rw [ht] at hP1
  have hK1 := va_K.moved hvm.symm hK1
  obtain ⟨hP, hD⟩ := va_join (wr := []) (w1 := [(h0, .inr (10, [.ref fq, .ref sq, .ref gq, .ref nq, .ref dq, .ref pq, .int pl, .int bl, .int tb])), (gq, .inr (4, [.int mc_gq, .ref tE, .int 0]))]) hP hD [0, 1] [] rfl rfl (by decide) (by decide) hk1 hFc hP1 hD1
  generalize H1 = H at hP hS ⊢
  have hP : va_P (dC, dI) vwCl [(h0, .inr (10, [.ref fq, .ref sq, .ref gq, .ref nq, .ref dq, .ref pq, .int pl, .int bl, .int tb])), (gq, .inr (4, [.int mc_gq, .ref tE, .int 0]))] H := hP
  have hD : va_D A [(h0, .inr (10, [.ref fq, .ref sq, .ref gq, .ref nq, .ref dq, .ref pq, .int pl, .int bl, .int tb])), (gq, .inr (4, [.int mc_gq, .ref tE, .int 0]))] := hD
  refine W.widen (k := 0) (n := 0) (by omega) (by omega) ?_
  obtain rfl : r_1 = 0 := hw
  refine lv_if_ne (tgt := 18) hx hb dX5_guest_5 (by decide) (fun c_2 => absurd (by decide) c_2) (fun _ => ?_)
  have hP9 := hP.sub (ws' := [(h0, .inr (10, [.ref fq, .ref sq, .ref gq, .ref nq, .ref dq, .ref pq, .int pl, .int bl, .int tb])), (gq, .inr (4, [.int mc_gq, .ref tE, .int 0]))]) [0, 1] rfl
  have hD9 := hD.sub (ws' := [(h0, .inr (10, [.ref fq, .ref sq, .ref gq, .ref nq, .ref dq, .ref pq, .int pl, .int bl, .int tb])), (gq, .inr (4, [.int mc_gq, .ref tE, .int 0]))]) [0, 1] (by decide) rfl
  have hK9 := hK.sub (tys' := []) [] rfl
  obtain ⟨sa, hstr⟩ := hT.s181
  exact vx_throwS (own := RX5) (cls := "java/lang/IndexOutOfBoundsException") (names := ["java/lang/RuntimeException", "java/lang/Exception"]) hx hb hl9 hown (by decide +kernel) (by decide +kernel) (hts (.classLink RX5 71 "java/lang/IndexOutOfBoundsException") (List.mem_of_getElem? (i := 13) rfl)) (hts (.initialized "java/lang/IndexOutOfBoundsException") (List.mem_of_getElem? (i := 14) rfl)) hstr (vx_hat (L := vx_atS RX5 75 "java/lang/IndexOutOfBoundsException" ["java/lang/RuntimeException", "java/lang/Exception"]) (B := [.castable "java/lang/IndexOutOfBoundsException" "java/lang/IndexOutOfBoundsException", .declares ⟨"java/lang/RuntimeException", "<init>", "(Ljava/lang/String;)V"⟩, .declares ⟨"java/lang/Exception", "<init>", "(Ljava/lang/String;)V"⟩, .declares ⟨"java/lang/Throwable", "<init>", "(Ljava/lang/String;)V"⟩]) (fun w hw => hts w (List.mem_append_right _ hw)) (by decide +kernel) (vx_c (va_Nw.use rfl hT.eX) (vx_c (va_Nw.use rfl hT.d1) (vx_c (va_Nw.use rfl hT.d2) (vx_c (va_Nw.use rfl hT.d3) (vx_n)))))) (by decide +kernel) hT.zU hT.zS hS (hl.1.trans hml.symm) dX5_guest_8 dX5_guest_11 dX5_guest_12 dX5_guest_14 dX5_guest_17 (fun x hx => (hEx x hx).elim) (Nat.le_of_ble_eq_true rfl) (Nat.le_of_ble_eq_true rfl) (Nat.le_of_ble_eq_true rfl) (Nat.le_of_ble_eq_true rfl) hlocks (fun t ha hsz hk => ⟨(), trivial, ⟨rfl, hP9.kept (fun k q hq => hk q.1 (hP9 k q hq).lt), va_K.moved ha hK9, hD9⟩, Nat.le_trans hS.1 hsz, fun q h1 h2 => (hk q (Nat.lt_of_lt_of_le h1 hS.1)).trans (hS.2.1 q h1 h2)⟩) hS.2.2 (Nat.le_of_ble_eq_true rfl) (Nat.le_of_ble_eq_true rfl)
def vh_c_foresee : List Cond := .code yX5_foresee cX5_foresee 7 (some .int) :: ([Cond.code yX5_isGuest cX5_isGuest 2 (some .boolean), Cond.fieldLink RX5 19 "HotelOfBells" "guests" "Ljava/util/ArrayList;", Cond.code yJx4a65c_size_8abf5 cJx4a65c_size_8abf5 1 (some .int), Cond.fieldLink RJx4a65c 48 "java/util/ArrayList" "size" "I", Cond.methodLink RX5 49 yJx4a65c_size_8abf5, Cond.instanceMethod yJx4a65c_size_8abf5, Cond.selects RJx4a65c yJx4a65c_size_8abf5 yJx4a65c_size_8abf5, Cond.initialized RJx4a65c, Cond.methodLink RX5 132 yX5_isGuest, Cond.instanceMethod yX5_isGuest, Cond.selects RX5 yX5_isGuest yX5_isGuest, Cond.initialized RX5, Cond.classLink RX5 71 "java/lang/IndexOutOfBoundsException", Cond.initialized "java/lang/IndexOutOfBoundsException"] ++ (wsX50 ++ (wsJx4a65c0 ++ [])))
def v_c_foresee : List Cond := vh_c_foresee ++ (thrX)
theorem u_c_foresee_X5 : ∀ w ∈ wsX50, w ∈ v_c_foresee := fun _ h => List.mem_append_left _ (List.mem_cons_of_mem _ (List.mem_append_right _ (List.mem_append_left _ h)))
theorem u_c_foresee_Jx4a65c : ∀ w ∈ wsJx4a65c0, w ∈ v_c_foresee := fun _ h => List.mem_append_left _ (List.mem_cons_of_mem _ (List.mem_append_right _ (List.mem_append_right _ (List.mem_append_left _ h))))
theorem gg_c_foresee_c_isGuest : GoodIn v_c_foresee v_c_isGuest := goodIn_r _ [1, 2, 3, 4, 5, 6, 7, 8, 15, 16, 17, 18, 19, 20, 21, 22, 23, 24, 25, 26] (by rfl) (by decide +kernel)
set_option maxHeartbeats 4000000 in
set_option maxRecDepth 100000 in
theorem c_foresee (l : Launch) (hl9 : l.stackTraces = false) (dC : Nat → ClassId) (dI : Nat → Nat → Nat) (tE : Nat) (h0 : Nat) (fq : Nat) (sq : Nat) (gq : Nat) (nq : Nat) (dq : Nat) (pq : Nat) (pl : Int32) (bl : Int32) (tb : Int32) (mc_gq : Int32) (p0 : Int32) (p1 : Int32) (sz : Nat) : vx_Met l yX5_foresee v_c_foresee ({ frames := 6, cells := 1, slots := 6, locals := 90 }) (va_Pc [.ref h0, .int p0, .int p1] (Pre0 dC dI tE sz [] [(h0, .inr (10, [.ref fq, .ref sq, .ref gq, .ref nq, .ref dq, .ref pq, .int pl, .int bl, .int tb])), (gq, .inr (4, [.int mc_gq, .ref tE, .int 0]))])) (va_Qi (fun (r : Int32) (_ : Unit) => False) (fun _ t => Pst dC dI [] (va_A [(h0, .inr (10, [.ref fq, .ref sq, .ref gq, .ref nq, .ref dq, .ref pq, .int pl, .int bl, .int tb])), (gq, .inr (4, [.int mc_gq, .ref tE, .int 0]))] sz) [(h0, .inr (10, [.ref fq, .ref sq, .ref gq, .ref nq, .ref dq, .ref pq, .int pl, .int bl, .int tb])), (gq, .inr (4, [.int mc_gq, .ref tE, .int 0]))] t) (va_A [(h0, .inr (10, [.ref fq, .ref sq, .ref gq, .ref nq, .ref dq, .ref pq, .int pl, .int bl, .int tb])), (gq, .inr (4, [.int mc_gq, .ref tE, .int 0]))] sz)) (vx_X (fun _ : Unit => True) (fun E _ t => E = "java/lang/IndexOutOfBoundsException" ∧ Pst dC dI [] (va_A [(h0, .inr (10, [.ref fq, .ref sq, .ref gq, .ref nq, .ref dq, .ref pq, .int pl, .int bl, .int tb])), (gq, .inr (4, [.int mc_gq, .ref tE, .int 0]))] sz) [(h0, .inr (10, [.ref fq, .ref sq, .ref gq, .ref nq, .ref dq, .ref pq, .int pl, .int bl, .int tb])), (gq, .inr (4, [.int mc_gq, .ref tE, .int 0]))] t) (va_A [(h0, .inr (10, [.ref fq, .ref sq, .ref gq, .ref nq, .ref dq, .ref pq, .int pl, .int bl, .int tb])), (gq, .inr (4, [.int mc_gq, .ref tE, .int 0]))] sz)) 1 6 (va_A [(h0, .inr (10, [.ref fq, .ref sq, .ref gq, .ref nq, .ref dq, .ref pq, .int pl, .int bl, .int tb])), (gq, .inr (4, [.int mc_gq, .ref tE, .int 0]))] sz) := by
  refine vx_ofW (cc := cX5_foresee) (maxL := 7) (ret := (some .int)) (by decide) rfl ?_
  intro p e s m args below meth c s₁ B hml hEx hv
  obtain ⟨rfl, hsz, hP, hK, hD0, hT⟩ := hv
  have hx := B.exec
  have hb := B.bytes
  have hr := B.returns
  have hts := atoms_spec (ws := v_c_foresee) B.pre
  have hown : s.vm.findClass RX5 = some m.cls := findClass_of_methodNamed B.named
  have hlocks := B.notSynchronized
  subst hsz
  have hD := hD0.self (sz := s.heap.size)
  generalize hAe : va_A [(h0, .inr (10, [.ref fq, .ref sq, .ref gq, .ref nq, .ref dq, .ref pq, .int pl, .int bl, .int tb])), (gq, .inr (4, [.int mc_gq, .ref tE, .int 0]))] s.heap.size = A at hD hT ⊢
  have hA : ∀ q : Nat, s.heap.size ≤ q → A q := fun q h => by rw [← hAe]; exact Or.inr h
  have hS : va_S A s.heap s.heap [] := va_S.rf
  have hl := lv_entry ([.ref h0, .int p0, .int p1]) (n := 7) (Nat.le_of_ble_eq_true rfl)
  rw [lg_entry_eq]
  generalize (lg_sl ([.ref h0, .int p0, .int p1]) ++ List.replicate (7 - (lg_sl ([.ref h0, .int p0, .int p1])).length) Slot.unset).toArray = ls at hl ⊢
  have hl : lv_has ls 7 [(0, .ref h0), (1, .int p0), (2, .int p1)] := hl
  refine lv_aload_n hx hb dX5_foresee_0 rfl (lv_at hl 0 rfl) ?_
  refine lv_iload_n hx hb dX5_foresee_1 rfl (lv_at hl 1 rfl) ?_
  have hPc := hP.sub (ws' := [(h0, .inr (10, [.ref fq, .ref sq, .ref gq, .ref nq, .ref dq, .ref pq, .int pl, .int bl, .int tb])), (gq, .inr (4, [.int mc_gq, .ref tE, .int 0]))]) [0, 1] rfl
  have hDc := hD.sub (ws' := [(h0, .inr (10, [.ref fq, .ref sq, .ref gq, .ref nq, .ref dq, .ref pq, .int pl, .int bl, .int tb])), (gq, .inr (4, [.int mc_gq, .ref tE, .int 0]))]) [0, 1] (by decide) rfl
  have hKc := hK.sub (tys' := []) [] rfl
  have hFc := va_free (wc := [(h0, .inr (10, [.ref fq, .ref sq, .ref gq, .ref nq, .ref dq, .ref pq, .int pl, .int bl, .int tb])), (gq, .inr (4, [.int mc_gq, .ref tE, .int 0]))]) hD hS hA [0, 1] rfl
  refine va_calli (va_runV (As := [.int p0]) (rest := []) ⟨hx, hb, hml, hown, hts⟩ (c_isGuest l hl9 dC dI tE h0 fq sq gq nq dq pq pl bl tb mc_gq p0 _ ) (cwV 1 hts (goodIn_app (goodIn_r _ [9, 10, 11, 12] (by rfl) (by decide +kernel)) gg_c_foresee_c_isGuest) rfl rfl rfl (by decide +kernel) ⟨Nat.le_of_ble_eq_true rfl, Nat.le_of_ble_eq_true rfl⟩) ⟨Pre0.blind, va_recv hKc hPc (ci := 10) (q0 := 0) rfl rfl, Pre0.give hPc hKc hDc hT hS hFc⟩ rfl rfl hl.1 rfl (lv_room (Nat.le_of_ble_eq_true rfl)) dX5_foresee_2 ⟨Nat.le_of_ble_eq_true rfl, Nat.le_of_ble_eq_true rfl⟩) hS (fun q _ h => hFc q h) hFc (fun r_1 u t H1 locs ht hvm hw hB hz1 hk1 hS => ?_)
  obtain ⟨hP1, hK1, hD1⟩ := hB
  rw [ht] at hP1
  have hK1 := va_K.moved hvm.symm hK1
  obtain ⟨hP, hD⟩ := va_join (wr := []) (w1 := [(h0, .inr (10, [.ref fq, .ref sq, .ref gq, .ref nq, .ref dq, .ref pq, .int pl, .int bl, .int tb])), (gq, .inr (4, [.int mc_gq, .ref tE, .int 0]))]) hP hD [0, 1] [] rfl rfl (by decide) (by decide) hk1 hFc hP1 hD1
  generalize H1 = H at hP hS ⊢
  have hP : va_P (dC, dI) vwCl [(h0, .inr (10, [.ref fq, .ref sq, .ref gq, .ref nq, .ref dq, .ref pq, .int pl, .int bl, .int tb])), (gq, .inr (4, [.int mc_gq, .ref tE, .int 0]))] H := hP
  have hD : va_D A [(h0, .inr (10, [.ref fq, .ref sq, .ref gq, .ref nq, .ref dq, .ref pq, .int pl, .int bl, .int tb])), (gq, .inr (4, [.int mc_gq, .ref tE, .int 0]))] := hD
  refine W.widen (k := 0) (n := 0) (by omega) (by omega) ?_
  obtain rfl : r_1 = 0 := hw
  refine lv_if_ne (tgt := 18) hx hb dX5_foresee_5 (by decide) (fun c_2 => absurd (by decide) c_2) (fun _ => ?_)
  have hP9 := hP.sub (ws' := [(h0, .inr (10, [.ref fq, .ref sq, .ref gq, .ref nq, .ref dq, .ref pq, .int pl, .int bl, .int tb])), (gq, .inr (4, [.int mc_gq, .ref tE, .int 0]))]) [0, 1] rfl
  have hD9 := hD.sub (ws' := [(h0, .inr (10, [.ref fq, .ref sq, .ref gq, .ref nq, .ref dq, .ref pq, .int pl, .int bl, .int tb])), (gq, .inr (4, [.int mc_gq, .ref tE, .int 0]))]) [0, 1] (by decide) rfl
  have hK9 := hK.sub (tys' := []) [] rfl
  obtain ⟨sa, hstr⟩ := hT.s181
  exact vx_throwS (own := RX5) (cls := "java/lang/IndexOutOfBoundsException") (names := ["java/lang/RuntimeException", "java/lang/Exception"]) hx hb hl9 hown (by decide +kernel) (by decide +kernel) (hts (.classLink RX5 71 "java/lang/IndexOutOfBoundsException") (List.mem_of_getElem? (i := 13) rfl)) (hts (.initialized "java/lang/IndexOutOfBoundsException") (List.mem_of_getElem? (i := 14) rfl)) hstr (vx_hat (L := vx_atS RX5 75 "java/lang/IndexOutOfBoundsException" ["java/lang/RuntimeException", "java/lang/Exception"]) (B := [.castable "java/lang/IndexOutOfBoundsException" "java/lang/IndexOutOfBoundsException", .declares ⟨"java/lang/RuntimeException", "<init>", "(Ljava/lang/String;)V"⟩, .declares ⟨"java/lang/Exception", "<init>", "(Ljava/lang/String;)V"⟩, .declares ⟨"java/lang/Throwable", "<init>", "(Ljava/lang/String;)V"⟩]) (fun w hw => hts w (List.mem_append_right _ hw)) (by decide +kernel) (vx_c (va_Nw.use rfl hT.eX) (vx_c (va_Nw.use rfl hT.d1) (vx_c (va_Nw.use rfl hT.d2) (vx_c (va_Nw.use rfl hT.d3) (vx_n)))))) (by decide +kernel) hT.zU hT.zS hS (hl.1.trans hml.symm) dX5_foresee_8 dX5_foresee_11 dX5_foresee_12 dX5_foresee_14 dX5_foresee_17 (fun x hx => (hEx x hx).elim) (Nat.le_of_ble_eq_true rfl) (Nat.le_of_ble_eq_true rfl) (Nat.le_of_ble_eq_true rfl) (Nat.le_of_ble_eq_true rfl) hlocks (fun t ha hsz hk => ⟨(), trivial, ⟨rfl, hP9.kept (fun k q hq => hk q.1 (hP9 k q hq).lt), va_K.moved ha hK9, hD9⟩, Nat.le_trans hS.1 hsz, fun q h1 h2 => (hk q (Nat.lt_of_lt_of_le h1 hS.1)).trans (hS.2.1 q h1 h2)⟩) hS.2.2 (Nat.le_of_ble_eq_true rfl) (Nat.le_of_ble_eq_true rfl)
def vh_c_advise : List Cond := .code yX5_advise cX5_advise 5 (some .int) :: ([Cond.code yX5_isGuest cX5_isGuest 2 (some .boolean), Cond.fieldLink RX5 19 "HotelOfBells" "guests" "Ljava/util/ArrayList;", Cond.code yJx4a65c_size_8abf5 cJx4a65c_size_8abf5 1 (some .int), Cond.fieldLink RJx4a65c 48 "java/util/ArrayList" "size" "I", Cond.methodLink RX5 49 yJx4a65c_size_8abf5, Cond.instanceMethod yJx4a65c_size_8abf5, Cond.selects RJx4a65c yJx4a65c_size_8abf5 yJx4a65c_size_8abf5, Cond.initialized RJx4a65c, Cond.methodLink RX5 132 yX5_isGuest, Cond.instanceMethod yX5_isGuest, Cond.selects RX5 yX5_isGuest yX5_isGuest, Cond.initialized RX5, Cond.classLink RX5 71 "java/lang/IndexOutOfBoundsException", Cond.initialized "java/lang/IndexOutOfBoundsException"] ++ (wsX50 ++ (wsJx4a65c0 ++ [])))
def v_c_advise : List Cond := vh_c_advise ++ (thrX)
theorem u_c_advise_X5 : ∀ w ∈ wsX50, w ∈ v_c_advise := fun _ h => List.mem_append_left _ (List.mem_cons_of_mem _ (List.mem_append_right _ (List.mem_append_left _ h)))
theorem u_c_advise_Jx4a65c : ∀ w ∈ wsJx4a65c0, w ∈ v_c_advise := fun _ h => List.mem_append_left _ (List.mem_cons_of_mem _ (List.mem_append_right _ (List.mem_append_right _ (List.mem_append_left _ h))))
theorem gg_c_advise_c_isGuest : GoodIn v_c_advise v_c_isGuest := goodIn_r _ [1, 2, 3, 4, 5, 6, 7, 8, 15, 16, 17, 18, 19, 20, 21, 22, 23, 24, 25, 26] (by rfl) (by decide +kernel)
set_option maxHeartbeats 4000000 in
set_option maxRecDepth 100000 in
theorem c_advise (l : Launch) (hl9 : l.stackTraces = false) (dC : Nat → ClassId) (dI : Nat → Nat → Nat) (tE : Nat) (h0 : Nat) (fq : Nat) (sq : Nat) (gq : Nat) (nq : Nat) (dq : Nat) (pq : Nat) (pl : Int32) (bl : Int32) (tb : Int32) (mc_gq : Int32) (p0 : Int32) (p1 : Int32) (sz : Nat) : vx_Met l yX5_advise v_c_advise ({ frames := 6, cells := 1, slots := 6, locals := 90 }) (va_Pc [.ref h0, .int p0, .int p1] (Pre0 dC dI tE sz [] [(h0, .inr (10, [.ref fq, .ref sq, .ref gq, .ref nq, .ref dq, .ref pq, .int pl, .int bl, .int tb])), (gq, .inr (4, [.int mc_gq, .ref tE, .int 0]))])) (va_Qi (fun (r : Int32) (_ : Unit) => False) (fun _ t => Pst dC dI [] (va_A [(h0, .inr (10, [.ref fq, .ref sq, .ref gq, .ref nq, .ref dq, .ref pq, .int pl, .int bl, .int tb])), (gq, .inr (4, [.int mc_gq, .ref tE, .int 0]))] sz) [(h0, .inr (10, [.ref fq, .ref sq, .ref gq, .ref nq, .ref dq, .ref pq, .int pl, .int bl, .int tb])), (gq, .inr (4, [.int mc_gq, .ref tE, .int 0]))] t) (va_A [(h0, .inr (10, [.ref fq, .ref sq, .ref gq, .ref nq, .ref dq, .ref pq, .int pl, .int bl, .int tb])), (gq, .inr (4, [.int mc_gq, .ref tE, .int 0]))] sz)) (vx_X (fun _ : Unit => True) (fun E _ t => E = "java/lang/IndexOutOfBoundsException" ∧ Pst dC dI [] (va_A [(h0, .inr (10, [.ref fq, .ref sq, .ref gq, .ref nq, .ref dq, .ref pq, .int pl, .int bl, .int tb])), (gq, .inr (4, [.int mc_gq, .ref tE, .int 0]))] sz) [(h0, .inr (10, [.ref fq, .ref sq, .ref gq, .ref nq, .ref dq, .ref pq, .int pl, .int bl, .int tb])), (gq, .inr (4, [.int mc_gq, .ref tE, .int 0]))] t) (va_A [(h0, .inr (10, [.ref fq, .ref sq, .ref gq, .ref nq, .ref dq, .ref pq, .int pl, .int bl, .int tb])), (gq, .inr (4, [.int mc_gq, .ref tE, .int 0]))] sz)) 1 6 (va_A [(h0, .inr (10, [.ref fq, .ref sq, .ref gq, .ref nq, .ref dq, .ref pq, .int pl, .int bl, .int tb])), (gq, .inr (4, [.int mc_gq, .ref tE, .int 0]))] sz) := by
  refine vx_ofW (cc := cX5_advise) (maxL := 5) (ret := (some .int)) (by decide) rfl ?_
  intro p e s m args below meth c s₁ B hml hEx hv
  obtain ⟨rfl, hsz, hP, hK, hD0, hT⟩ := hv
  have hx := B.exec
  have hb := B.bytes
  have hr := B.returns
  have hts := atoms_spec (ws := v_c_advise) B.pre
  have hown : s.vm.findClass RX5 = some m.cls := findClass_of_methodNamed B.named
  have hlocks := B.notSynchronized
  subst hsz
  have hD := hD0.self (sz := s.heap.size)
  generalize hAe : va_A [(h0, .inr (10, [.ref fq, .ref sq, .ref gq, .ref nq, .ref dq, .ref pq, .int pl, .int bl, .int tb])), (gq, .inr (4, [.int mc_gq, .ref tE, .int 0]))] s.heap.size = A at hD hT ⊢
  have hA : ∀ q : Nat, s.heap.size ≤ q → A q := fun q h => by rw [← hAe]; exact Or.inr h
  have hS : va_S A s.heap s.heap [] := va_S.rf
  have hl := lv_entry ([.ref h0, .int p0, .int p1]) (n := 5) (Nat.le_of_ble_eq_true rfl)
  rw [lg_entry_eq]
  generalize (lg_sl ([.ref h0, .int p0, .int p1]) ++ List.replicate (5 - (lg_sl ([.ref h0, .int p0, .int p1])).length) Slot.unset).toArray = ls at hl ⊢
  have hl : lv_has ls 5 [(0, .ref h0), (1, .int p0), (2, .int p1)] := hl
  refine lv_aload_n hx hb dX5_advise_0 rfl (lv_at hl 0 rfl) ?_
  refine lv_iload_n hx hb dX5_advise_1 rfl (lv_at hl 1 rfl) ?_
  have hPc := hP.sub (ws' := [(h0, .inr (10, [.ref fq, .ref sq, .ref gq, .ref nq, .ref dq, .ref pq, .int pl, .int bl, .int tb])), (gq, .inr (4, [.int mc_gq, .ref tE, .int 0]))]) [0, 1] rfl
  have hDc := hD.sub (ws' := [(h0, .inr (10, [.ref fq, .ref sq, .ref gq, .ref nq, .ref dq, .ref pq, .int pl, .int bl, .int tb])), (gq, .inr (4, [.int mc_gq, .ref tE, .int 0]))]) [0, 1] (by decide) rfl
  have hKc := hK.sub (tys' := []) [] rfl
  have hFc := va_free (wc := [(h0, .inr (10, [.ref fq, .ref sq, .ref gq, .ref nq, .ref dq, .ref pq, .int pl, .int bl, .int tb])), (gq, .inr (4, [.int mc_gq, .ref tE, .int 0]))]) hD hS hA [0, 1] rfl
  refine va_calli (va_runV (As := [.int p0]) (rest := []) ⟨hx, hb, hml, hown, hts⟩ (c_isGuest l hl9 dC dI tE h0 fq sq gq nq dq pq pl bl tb mc_gq p0 _ ) (cwV 1 hts (goodIn_app (goodIn_r _ [9, 10, 11, 12] (by rfl) (by decide +kernel)) gg_c_advise_c_isGuest) rfl rfl rfl (by decide +kernel) ⟨Nat.le_of_ble_eq_true rfl, Nat.le_of_ble_eq_true rfl⟩) ⟨Pre0.blind, va_recv hKc hPc (ci := 10) (q0 := 0) rfl rfl, Pre0.give hPc hKc hDc hT hS hFc⟩ rfl rfl hl.1 rfl (lv_room (Nat.le_of_ble_eq_true rfl)) dX5_advise_2 ⟨Nat.le_of_ble_eq_true rfl, Nat.le_of_ble_eq_true rfl⟩) hS (fun q _ h => hFc q h) hFc (fun r_1 u t H1 locs ht hvm hw hB hz1 hk1 hS => ?_)
  obtain ⟨hP1, hK1, hD1⟩ := hB
  rw [ht] at hP1
  have hK1 := va_K.moved hvm.symm hK1
  obtain ⟨hP, hD⟩ := va_join (wr := []) (w1 := [(h0, .inr (10, [.ref fq, .ref sq, .ref gq, .ref nq, .ref dq, .ref pq, .int pl, .int bl, .int tb])), (gq, .inr (4, [.int mc_gq, .ref tE, .int 0]))]) hP hD [0, 1] [] rfl rfl (by decide) (by decide) hk1 hFc hP1 hD1
  generalize H1 = H at hP hS ⊢
  have hP : va_P (dC, dI) vwCl [(h0, .inr (10, [.ref fq, .ref sq, .ref gq, .ref nq, .ref dq, .ref pq, .int pl, .int bl, .int tb])), (gq, .inr (4, [.int mc_gq, .ref tE, .int 0]))] H := hP
  have hD : va_D A [(h0, .inr (10, [.ref fq, .ref sq, .ref gq, .ref nq, .ref dq, .ref pq, .int pl, .int bl, .int tb])), (gq, .inr (4, [.int mc_gq, .ref tE, .int 0]))] := hD
  refine W.widen (k := 0) (n := 0) (by omega) (by omega) ?_
  obtain rfl : r_1 = 0 := hw
  refine lv_if_ne (tgt := 18) hx hb dX5_advise_5 (by decide) (fun c_2 => absurd (by decide) c_2) (fun _ => ?_)
  have hP9 := hP.sub (ws' := [(h0, .inr (10, [.ref fq, .ref sq, .ref gq, .ref nq, .ref dq, .ref pq, .int pl, .int bl, .int tb])), (gq, .inr (4, [.int mc_gq, .ref tE, .int 0]))]) [0, 1] rfl
  have hD9 := hD.sub (ws' := [(h0, .inr (10, [.ref fq, .ref sq, .ref gq, .ref nq, .ref dq, .ref pq, .int pl, .int bl, .int tb])), (gq, .inr (4, [.int mc_gq, .ref tE, .int 0]))]) [0, 1] (by decide) rfl
  have hK9 := hK.sub (tys' := []) [] rfl
  obtain ⟨sa, hstr⟩ := hT.s181
  exact vx_throwS (own := RX5) (cls := "java/lang/IndexOutOfBoundsException") (names := ["java/lang/RuntimeException", "java/lang/Exception"]) hx hb hl9 hown (by decide +kernel) (by decide +kernel) (hts (.classLink RX5 71 "java/lang/IndexOutOfBoundsException") (List.mem_of_getElem? (i := 13) rfl)) (hts (.initialized "java/lang/IndexOutOfBoundsException") (List.mem_of_getElem? (i := 14) rfl)) hstr (vx_hat (L := vx_atS RX5 75 "java/lang/IndexOutOfBoundsException" ["java/lang/RuntimeException", "java/lang/Exception"]) (B := [.castable "java/lang/IndexOutOfBoundsException" "java/lang/IndexOutOfBoundsException", .declares ⟨"java/lang/RuntimeException", "<init>", "(Ljava/lang/String;)V"⟩, .declares ⟨"java/lang/Exception", "<init>", "(Ljava/lang/String;)V"⟩, .declares ⟨"java/lang/Throwable", "<init>", "(Ljava/lang/String;)V"⟩]) (fun w hw => hts w (List.mem_append_right _ hw)) (by decide +kernel) (vx_c (va_Nw.use rfl hT.eX) (vx_c (va_Nw.use rfl hT.d1) (vx_c (va_Nw.use rfl hT.d2) (vx_c (va_Nw.use rfl hT.d3) (vx_n)))))) (by decide +kernel) hT.zU hT.zS hS (hl.1.trans hml.symm) dX5_advise_8 dX5_advise_11 dX5_advise_12 dX5_advise_14 dX5_advise_17 (fun x hx => (hEx x hx).elim) (Nat.le_of_ble_eq_true rfl) (Nat.le_of_ble_eq_true rfl) (Nat.le_of_ble_eq_true rfl) (Nat.le_of_ble_eq_true rfl) hlocks (fun t ha hsz hk => ⟨(), trivial, ⟨rfl, hP9.kept (fun k q hq => hk q.1 (hP9 k q hq).lt), va_K.moved ha hK9, hD9⟩, Nat.le_trans hS.1 hsz, fun q h1 h2 => (hk q (Nat.lt_of_lt_of_le h1 hS.1)).trans (hS.2.1 q h1 h2)⟩) hS.2.2 (Nat.le_of_ble_eq_true rfl) (Nat.le_of_ble_eq_true rfl)
def vh_c_floor : List Cond := .code yX5_floor cX5_floor 4 (some .int) :: ([Cond.code yX5_isFloor cX5_isFloor 2 (some .boolean), Cond.fieldLink RX5 10 "HotelOfBells" "floors" "Ljava/util/ArrayList;", Cond.code yJx4a65c_size_8abf5 cJx4a65c_size_8abf5 1 (some .int), Cond.fieldLink RJx4a65c 48 "java/util/ArrayList" "size" "I", Cond.methodLink RX5 49 yJx4a65c_size_8abf5, Cond.instanceMethod yJx4a65c_size_8abf5, Cond.selects RJx4a65c yJx4a65c_size_8abf5 yJx4a65c_size_8abf5, Cond.initialized RJx4a65c, Cond.methodLink RX5 67 yX5_isFloor, Cond.instanceMethod yX5_isFloor, Cond.selects RX5 yX5_isFloor yX5_isFloor, Cond.initialized RX5, Cond.classLink RX5 71 "java/lang/IndexOutOfBoundsException", Cond.initialized "java/lang/IndexOutOfBoundsException"] ++ (wsX50 ++ (wsJx4a65c0 ++ [])))
def v_c_floor : List Cond := vh_c_floor ++ (thrX)
theorem u_c_floor_X5 : ∀ w ∈ wsX50, w ∈ v_c_floor := fun _ h => List.mem_append_left _ (List.mem_cons_of_mem _ (List.mem_append_right _ (List.mem_append_left _ h)))
theorem u_c_floor_Jx4a65c : ∀ w ∈ wsJx4a65c0, w ∈ v_c_floor := fun _ h => List.mem_append_left _ (List.mem_cons_of_mem _ (List.mem_append_right _ (List.mem_append_right _ (List.mem_append_left _ h))))
theorem gg_c_floor_c_isFloor : GoodIn v_c_floor v_c_isFloor := goodIn_r _ [1, 2, 3, 4, 5, 6, 7, 8, 15, 16, 17, 18, 19, 20, 21, 22, 23, 24, 25, 26] (by rfl) (by decide +kernel)
set_option maxHeartbeats 4000000 in
set_option maxRecDepth 100000 in
theorem c_floor (l : Launch) (hl9 : l.stackTraces = false) (dC : Nat → ClassId) (dI : Nat → Nat → Nat) (tE : Nat) (h0 : Nat) (fq : Nat) (sq : Nat) (gq : Nat) (nq : Nat) (dq : Nat) (pq : Nat) (pl : Int32) (bl : Int32) (tb : Int32) (mc_fq : Int32) (p0 : Int32) (p1 : Int32) (sz : Nat) : vx_Met l yX5_floor v_c_floor ({ frames := 6, cells := 1, slots := 6, locals := 90 }) (va_Pc [.ref h0, .int p0, .int p1] (Pre0 dC dI tE sz [] [(h0, .inr (10, [.ref fq, .ref sq, .ref gq, .ref nq, .ref dq, .ref pq, .int pl, .int bl, .int tb])), (fq, .inr (4, [.int mc_fq, .ref tE, .int 0]))])) (va_Qi (fun (r : Int32) (_ : Unit) => False) (fun _ t => Pst dC dI [] (va_A [(h0, .inr (10, [.ref fq, .ref sq, .ref gq, .ref nq, .ref dq, .ref pq, .int pl, .int bl, .int tb])), (fq, .inr (4, [.int mc_fq, .ref tE, .int 0]))] sz) [(h0, .inr (10, [.ref fq, .ref sq, .ref gq, .ref nq, .ref dq, .ref pq, .int pl, .int bl, .int tb])), (fq, .inr (4, [.int mc_fq, .ref tE, .int 0]))] t) (va_A [(h0, .inr (10, [.ref fq, .ref sq, .ref gq, .ref nq, .ref dq, .ref pq, .int pl, .int bl, .int tb])), (fq, .inr (4, [.int mc_fq, .ref tE, .int 0]))] sz)) (vx_X (fun _ : Unit => True) (fun E _ t => E = "java/lang/IndexOutOfBoundsException" ∧ Pst dC dI [] (va_A [(h0, .inr (10, [.ref fq, .ref sq, .ref gq, .ref nq, .ref dq, .ref pq, .int pl, .int bl, .int tb])), (fq, .inr (4, [.int mc_fq, .ref tE, .int 0]))] sz) [(h0, .inr (10, [.ref fq, .ref sq, .ref gq, .ref nq, .ref dq, .ref pq, .int pl, .int bl, .int tb])), (fq, .inr (4, [.int mc_fq, .ref tE, .int 0]))] t) (va_A [(h0, .inr (10, [.ref fq, .ref sq, .ref gq, .ref nq, .ref dq, .ref pq, .int pl, .int bl, .int tb])), (fq, .inr (4, [.int mc_fq, .ref tE, .int 0]))] sz)) 1 6 (va_A [(h0, .inr (10, [.ref fq, .ref sq, .ref gq, .ref nq, .ref dq, .ref pq, .int pl, .int bl, .int tb])), (fq, .inr (4, [.int mc_fq, .ref tE, .int 0]))] sz) := by
  refine vx_ofW (cc := cX5_floor) (maxL := 4) (ret := (some .int)) (by decide) rfl ?_
  intro p e s m args below meth c s₁ B hml hEx hv
  obtain ⟨rfl, hsz, hP, hK, hD0, hT⟩ := hv
  have hx := B.exec
  have hb := B.bytes
  have hr := B.returns
  have hts := atoms_spec (ws := v_c_floor) B.pre
  have hown : s.vm.findClass RX5 = some m.cls := findClass_of_methodNamed B.named
  have hlocks := B.notSynchronized
  subst hsz
  have hD := hD0.self (sz := s.heap.size)
  generalize hAe : va_A [(h0, .inr (10, [.ref fq, .ref sq, .ref gq, .ref nq, .ref dq, .ref pq, .int pl, .int bl, .int tb])), (fq, .inr (4, [.int mc_fq, .ref tE, .int 0]))] s.heap.size = A at hD hT ⊢
  have hA : ∀ q : Nat, s.heap.size ≤ q → A q := fun q h => by rw [← hAe]; exact Or.inr h
  have hS : va_S A s.heap s.heap [] := va_S.rf
  have hl := lv_entry ([.ref h0, .int p0, .int p1]) (n := 4) (Nat.le_of_ble_eq_true rfl)
  rw [lg_entry_eq]
  generalize (lg_sl ([.ref h0, .int p0, .int p1]) ++ List.replicate (4 - (lg_sl ([.ref h0, .int p0, .int p1])).length) Slot.unset).toArray = ls at hl ⊢
  have hl : lv_has ls 4 [(0, .ref h0), (1, .int p0), (2, .int p1)] := hl
  refine lv_aload_n hx hb dX5_floor_0 rfl (lv_at hl 0 rfl) ?_
  refine lv_iload_n hx hb dX5_floor_1 rfl (lv_at hl 1 rfl) ?_
  have hPc := hP.sub (ws' := [(h0, .inr (10, [.ref fq, .ref sq, .ref gq, .ref nq, .ref dq, .ref pq, .int pl, .int bl, .int tb])), (fq, .inr (4, [.int mc_fq, .ref tE, .int 0]))]) [0, 1] rfl
  have hDc := hD.sub (ws' := [(h0, .inr (10, [.ref fq, .ref sq, .ref gq, .ref nq, .ref dq, .ref pq, .int pl, .int bl, .int tb])), (fq, .inr (4, [.int mc_fq, .ref tE, .int 0]))]) [0, 1] (by decide) rfl
  have hKc := hK.sub (tys' := []) [] rfl
  have hFc := va_free (wc := [(h0, .inr (10, [.ref fq, .ref sq, .ref gq, .ref nq, .ref dq, .ref pq, .int pl, .int bl, .int tb])), (fq, .inr (4, [.int mc_fq, .ref tE, .int 0]))]) hD hS hA [0, 1] rfl
  refine va_calli (va_runV (As := [.int p0]) (rest := []) ⟨hx, hb, hml, hown, hts⟩ (c_isFloor l hl9 dC dI tE h0 fq sq gq nq dq pq pl bl tb mc_fq p0 _ ) (cwV 1 hts (goodIn_app (goodIn_r _ [9, 10, 11, 12] (by rfl) (by decide +kernel)) gg_c_floor_c_isFloor) rfl rfl rfl (by decide +kernel) ⟨Nat.le_of_ble_eq_true rfl, Nat.le_of_ble_eq_true rfl⟩) ⟨Pre0.blind, va_recv hKc hPc (ci := 10) (q0 := 0) rfl rfl, Pre0.give hPc hKc hDc hT hS hFc⟩ rfl rfl hl.1 rfl (lv_room (Nat.le_of_ble_eq_true rfl)) dX5_floor_2 ⟨Nat.le_of_ble_eq_true rfl, Nat.le_of_ble_eq_true rfl⟩) hS (fun q _ h => hFc q h) hFc (fun r_1 u t H1 locs ht hvm hw hB hz1 hk1 hS => ?_)
  obtain ⟨hP1, hK1, hD1⟩ := hB
  rw [ht] at hP1
  have hK1 := va_K.moved hvm.symm hK1
  obtain ⟨hP, hD⟩ := va_join (wr := []) (w1 := [(h0, .inr (10, [.ref fq, .ref sq, .ref gq, .ref nq, .ref dq, .ref pq, .int pl, .int bl, .int tb])), (fq, .inr (4, [.int mc_fq, .ref tE, .int 0]))]) hP hD [0, 1] [] rfl rfl (by decide) (by decide) hk1 hFc hP1 hD1
  generalize H1 = H at hP hS ⊢
  have hP : va_P (dC, dI) vwCl [(h0, .inr (10, [.ref fq, .ref sq, .ref gq, .ref nq, .ref dq, .ref pq, .int pl, .int bl, .int tb])), (fq, .inr (4, [.int mc_fq, .ref tE, .int 0]))] H := hP
  have hD : va_D A [(h0, .inr (10, [.ref fq, .ref sq, .ref gq, .ref nq, .ref dq, .ref pq, .int pl, .int bl, .int tb])), (fq, .inr (4, [.int mc_fq, .ref tE, .int 0]))] := hD
  refine W.widen (k := 0) (n := 0) (by omega) (by omega) ?_
  obtain rfl : r_1 = 0 := hw
  refine lv_if_ne (tgt := 18) hx hb dX5_floor_5 (by decide) (fun c_2 => absurd (by decide) c_2) (fun _ => ?_)
  have hP9 := hP.sub (ws' := [(h0, .inr (10, [.ref fq, .ref sq, .ref gq, .ref nq, .ref dq, .ref pq, .int pl, .int bl, .int tb])), (fq, .inr (4, [.int mc_fq, .ref tE, .int 0]))]) [0, 1] rfl
  have hD9 := hD.sub (ws' := [(h0, .inr (10, [.ref fq, .ref sq, .ref gq, .ref nq, .ref dq, .ref pq, .int pl, .int bl, .int tb])), (fq, .inr (4, [.int mc_fq, .ref tE, .int 0]))]) [0, 1] (by decide) rfl
  have hK9 := hK.sub (tys' := []) [] rfl
  obtain ⟨sa, hstr⟩ := hT.s73
  exact vx_throwS (own := RX5) (cls := "java/lang/IndexOutOfBoundsException") (names := ["java/lang/RuntimeException", "java/lang/Exception"]) hx hb hl9 hown (by decide +kernel) (by decide +kernel) (hts (.classLink RX5 71 "java/lang/IndexOutOfBoundsException") (List.mem_of_getElem? (i := 13) rfl)) (hts (.initialized "java/lang/IndexOutOfBoundsException") (List.mem_of_getElem? (i := 14) rfl)) hstr (vx_hat (L := vx_atS RX5 75 "java/lang/IndexOutOfBoundsException" ["java/lang/RuntimeException", "java/lang/Exception"]) (B := [.castable "java/lang/IndexOutOfBoundsException" "java/lang/IndexOutOfBoundsException", .declares ⟨"java/lang/RuntimeException", "<init>", "(Ljava/lang/String;)V"⟩, .declares ⟨"java/lang/Exception", "<init>", "(Ljava/lang/String;)V"⟩, .declares ⟨"java/lang/Throwable", "<init>", "(Ljava/lang/String;)V"⟩]) (fun w hw => hts w (List.mem_append_right _ hw)) (by decide +kernel) (vx_c (va_Nw.use rfl hT.eX) (vx_c (va_Nw.use rfl hT.d1) (vx_c (va_Nw.use rfl hT.d2) (vx_c (va_Nw.use rfl hT.d3) (vx_n)))))) (by decide +kernel) hT.zU hT.zS hS (hl.1.trans hml.symm) dX5_floor_8 dX5_floor_11 dX5_floor_12 dX5_floor_14 dX5_floor_17 (fun x hx => (hEx x hx).elim) (Nat.le_of_ble_eq_true rfl) (Nat.le_of_ble_eq_true rfl) (Nat.le_of_ble_eq_true rfl) (Nat.le_of_ble_eq_true rfl) hlocks (fun t ha hsz hk => ⟨(), trivial, ⟨rfl, hP9.kept (fun k q hq => hk q.1 (hP9 k q hq).lt), va_K.moved ha hK9, hD9⟩, Nat.le_trans hS.1 hsz, fun q h1 h2 => (hk q (Nat.lt_of_lt_of_le h1 hS.1)).trans (hS.2.1 q h1 h2)⟩) hS.2.2 (Nat.le_of_ble_eq_true rfl) (Nat.le_of_ble_eq_true rfl)
def vh_c_addGuest : List Cond := .code yX5_addGuest cX5_addGuest 3 (some .int) :: ([Cond.code yX5_isRoom cX5_isRoom 3 (some .boolean), Cond.code yX5_isFloor cX5_isFloor 2 (some .boolean), Cond.fieldLink RX5 10 "HotelOfBells" "floors" "Ljava/util/ArrayList;", Cond.code yJx4a65c_size_8abf5 cJx4a65c_size_8abf5 1 (some .int), Cond.fieldLink RJx4a65c 48 "java/util/ArrayList" "size" "I", Cond.methodLink RX5 49 yJx4a65c_size_8abf5, Cond.instanceMethod yJx4a65c_size_8abf5, Cond.selects RJx4a65c yJx4a65c_size_8abf5 yJx4a65c_size_8abf5, Cond.initialized RJx4a65c, Cond.methodLink RX5 67 yX5_isFloor, Cond.instanceMethod yX5_isFloor, Cond.selects RX5 yX5_isFloor yX5_isFloor, Cond.initialized RX5, Cond.methodLink RX5 120 yX5_isRoom, Cond.instanceMethod yX5_isRoom, Cond.selects RX5 yX5_isRoom yX5_isRoom, Cond.classLink RX5 71 "java/lang/IndexOutOfBoundsException", Cond.initialized "java/lang/IndexOutOfBoundsException"] ++ (wsX50 ++ (wsJx4a65c0 ++ [])))
def v_c_addGuest : List Cond := vh_c_addGuest ++ (thrX)
theorem u_c_addGuest_X5 : ∀ w ∈ wsX50, w ∈ v_c_addGuest := fun _ h => List.mem_append_left _ (List.mem_cons_of_mem _ (List.mem_append_right _ (List.mem_append_left _ h)))
theorem u_c_addGuest_Jx4a65c : ∀ w ∈ wsJx4a65c0, w ∈ v_c_addGuest := fun _ h => List.mem_append_left _ (List.mem_cons_of_mem _ (List.mem_append_right _ (List.mem_append_right _ (List.mem_append_left _ h))))
theorem gg_c_addGuest_c_isRoom : GoodIn v_c_addGuest v_c_isRoom := goodIn_r _ [1, 2, 3, 4, 5, 6, 7, 8, 9, 10, 11, 12, 13, 19, 20, 21, 22, 23, 24, 25, 26, 27, 28, 29, 30] (by rfl) (by decide +kernel)
set_option maxHeartbeats 4000000 in
set_option maxRecDepth 100000 in
theorem c_addGuest (l : Launch) (hl9 : l.stackTraces = false) (dC : Nat → ClassId) (dI : Nat → Nat → Nat) (tE : Nat) (h0 : Nat) (fq : Nat) (sq : Nat) (gq : Nat) (nq : Nat) (dq : Nat) (pq : Nat) (pl : Int32) (bl : Int32) (tb : Int32) (mc_fq : Int32) (p0 : Int32) (p1 : Int32) (sz : Nat) : vx_Met l yX5_addGuest v_c_addGuest ({ frames := 6, cells := 1, slots := 6, locals := 90 }) (va_Pc [.ref h0, .int p0, .int p1] (Pre0 dC dI tE sz [] [(h0, .inr (10, [.ref fq, .ref sq, .ref gq, .ref nq, .ref dq, .ref pq, .int pl, .int bl, .int tb])), (fq, .inr (4, [.int mc_fq, .ref tE, .int 0]))])) (va_Qi (fun (r : Int32) (_ : Unit) => False) (fun _ t => Pst dC dI [] (va_A [(h0, .inr (10, [.ref fq, .ref sq, .ref gq, .ref nq, .ref dq, .ref pq, .int pl, .int bl, .int tb])), (fq, .inr (4, [.int mc_fq, .ref tE, .int 0]))] sz) [(h0, .inr (10, [.ref fq, .ref sq, .ref gq, .ref nq, .ref dq, .ref pq, .int pl, .int bl, .int tb])), (fq, .inr (4, [.int mc_fq, .ref tE, .int 0]))] t) (va_A [(h0, .inr (10, [.ref fq, .ref sq, .ref gq, .ref nq, .ref dq, .ref pq, .int pl, .int bl, .int tb])), (fq, .inr (4, [.int mc_fq, .ref tE, .int 0]))] sz)) (vx_X (fun _ : Unit => True) (fun E _ t => E = "java/lang/IndexOutOfBoundsException" ∧ Pst dC dI [] (va_A [(h0, .inr (10, [.ref fq, .ref sq, .ref gq, .ref nq, .ref dq, .ref pq, .int pl, .int bl, .int tb])), (fq, .inr (4, [.int mc_fq, .ref tE, .int 0]))] sz) [(h0, .inr (10, [.ref fq, .ref sq, .ref gq, .ref nq, .ref dq, .ref pq, .int pl, .int bl, .int tb])), (fq, .inr (4, [.int mc_fq, .ref tE, .int 0]))] t) (va_A [(h0, .inr (10, [.ref fq, .ref sq, .ref gq, .ref nq, .ref dq, .ref pq, .int pl, .int bl, .int tb])), (fq, .inr (4, [.int mc_fq, .ref tE, .int 0]))] sz)) 1 6 (va_A [(h0, .inr (10, [.ref fq, .ref sq, .ref gq, .ref nq, .ref dq, .ref pq, .int pl, .int bl, .int tb])), (fq, .inr (4, [.int mc_fq, .ref tE, .int 0]))] sz) := by
  refine vx_ofW (cc := cX5_addGuest) (maxL := 3) (ret := (some .int)) (by decide) rfl ?_
  intro p e s m args below meth c s₁ B hml hEx hv
  obtain ⟨rfl, hsz, hP, hK, hD0, hT⟩ := hv
  have hx := B.exec
  have hb := B.bytes
  have hr := B.returns
  have hts := atoms_spec (ws := v_c_addGuest) B.pre
  have hown : s.vm.findClass RX5 = some m.cls := findClass_of_methodNamed B.named
  have hlocks := B.notSynchronized
  subst hsz
  have hD := hD0.self (sz := s.heap.size)
  generalize hAe : va_A [(h0, .inr (10, [.ref fq, .ref sq, .ref gq, .ref nq, .ref dq, .ref pq, .int pl, .int bl, .int tb])), (fq, .inr (4, [.int mc_fq, .ref tE, .int 0]))] s.heap.size = A at hD hT ⊢
  have hA : ∀ q : Nat, s.heap.size ≤ q → A q := fun q h => by rw [← hAe]; exact Or.inr h
  have hS : va_S A s.heap s.heap [] := va_S.rf
  have hl := lv_entry ([.ref h0, .int p0, .int p1]) (n := 3) (Nat.le_of_ble_eq_true rfl)
  rw [lg_entry_eq]
  generalize (lg_sl ([.ref h0, .int p0, .int p1]) ++ List.replicate (3 - (lg_sl ([.ref h0, .int p0, .int p1])).length) Slot.unset).toArray = ls at hl ⊢
  have hl : lv_has ls 3 [(0, .ref h0), (1, .int p0), (2, .int p1)] := hl
  refine lv_aload_n hx hb dX5_addGuest_0 rfl (lv_at hl 0 rfl) ?_
  refine lv_iload_n hx hb dX5_addGuest_1 rfl (lv_at hl 1 rfl) ?_
  refine lv_iload_n hx hb dX5_addGuest_2 rfl (lv_at hl 2 rfl) ?_
  have hPc := hP.sub (ws' := [(h0, .inr (10, [.ref fq, .ref sq, .ref gq, .ref nq, .ref dq, .ref pq, .int pl, .int bl, .int tb])), (fq, .inr (4, [.int mc_fq, .ref tE, .int 0]))]) [0, 1] rfl
  have hDc := hD.sub (ws' := [(h0, .inr (10, [.ref fq, .ref sq, .ref gq, .ref nq, .ref dq, .ref pq, .int pl, .int bl, .int tb])), (fq, .inr (4, [.int mc_fq, .ref tE, .int 0]))]) [0, 1] (by decide) rfl
  have hKc := hK.sub (tys' := []) [] rfl
  have hFc := va_free (wc := [(h0, .inr (10, [.ref fq, .ref sq, .ref gq, .ref nq, .ref dq, .ref pq, .int pl, .int bl, .int tb])), (fq, .inr (4, [.int mc_fq, .ref tE, .int 0]))]) hD hS hA [0, 1] rfl
  refine va_calli (va_runV (As := [.int p0, .int p1]) (rest := []) ⟨hx, hb, hml, hown, hts⟩ (c_isRoom l hl9 dC dI tE h0 fq sq gq nq dq pq pl bl tb mc_fq p0 p1 _ ) (cwV 2 hts (goodIn_app (goodIn_r _ [14, 15, 16, 13] (by rfl) (by decide +kernel)) gg_c_addGuest_c_isRoom) rfl rfl rfl (by decide +kernel) ⟨Nat.le_of_ble_eq_true rfl, Nat.le_of_ble_eq_true rfl⟩) ⟨Pre0.blind, va_recv hKc hPc (ci := 10) (q0 := 0) rfl rfl, Pre0.give hPc hKc hDc hT hS hFc⟩ rfl rfl hl.1 rfl (lv_room (Nat.le_of_ble_eq_true rfl)) dX5_addGuest_3 ⟨Nat.le_of_ble_eq_true rfl, Nat.le_of_ble_eq_true rfl⟩) hS (fun q _ h => hFc q h) hFc (fun r_1 u t H1 locs ht hvm hw hB hz1 hk1 hS => ?_)
  obtain ⟨hP1, hK1, hD1⟩ := hB
  rw [ht] at hP1
  have hK1 := va_K.moved hvm.symm hK1
  obtain ⟨hP, hD⟩ := va_join (wr := []) (w1 := [(h0, .inr (10, [.ref fq, .ref sq, .ref gq, .ref nq, .ref dq, .ref pq, .int pl, .int bl, .int tb])), (fq, .inr (4, [.int mc_fq, .ref tE, .int 0]))]) hP hD [0, 1] [] rfl rfl (by decide) (by decide) hk1 hFc hP1 hD1
  generalize H1 = H at hP hS ⊢
  have hP : va_P (dC, dI) vwCl [(h0, .inr (10, [.ref fq, .ref sq, .ref gq, .ref nq, .ref dq, .ref pq, .int pl, .int bl, .int tb])), (fq, .inr (4, [.int mc_fq, .ref tE, .int 0]))] H := hP
  have hD : va_D A [(h0, .inr (10, [.ref fq, .ref sq, .ref gq, .ref nq, .ref dq, .ref pq, .int pl, .int bl, .int tb])), (fq, .inr (4, [.int mc_fq, .ref tE, .int 0]))] := hD
  refine W.widen (k := 0) (n := 0) (by omega) (by omega) ?_
  obtain rfl : r_1 = 0 := hw
  refine lv_if_ne (tgt := 19) hx hb dX5_addGuest_6 (by decide) (fun c_2 => absurd (by decide) c_2) (fun _ => ?_)
  have hP9 := hP.sub (ws' := [(h0, .inr (10, [.ref fq, .ref sq, .ref gq, .ref nq, .ref dq, .ref pq, .int pl, .int bl, .int tb])), (fq, .inr (4, [.int mc_fq, .ref tE, .int 0]))]) [0, 1] rfl
  have hD9 := hD.sub (ws' := [(h0, .inr (10, [.ref fq, .ref sq, .ref gq, .ref nq, .ref dq, .ref pq, .int pl, .int bl, .int tb])), (fq, .inr (4, [.int mc_fq, .ref tE, .int 0]))]) [0, 1] (by decide) rfl
  have hK9 := hK.sub (tys' := []) [] rfl
  obtain ⟨sa, hstr⟩ := hT.s124
  exact vx_throwS (own := RX5) (cls := "java/lang/IndexOutOfBoundsException") (names := ["java/lang/RuntimeException", "java/lang/Exception"]) hx hb hl9 hown (by decide +kernel) (by decide +kernel) (hts (.classLink RX5 71 "java/lang/IndexOutOfBoundsException") (List.mem_of_getElem? (i := 17) rfl)) (hts (.initialized "java/lang/IndexOutOfBoundsException") (List.mem_of_getElem? (i := 18) rfl)) hstr (vx_hat (L := vx_atS RX5 75 "java/lang/IndexOutOfBoundsException" ["java/lang/RuntimeException", "java/lang/Exception"]) (B := [.castable "java/lang/IndexOutOfBoundsException" "java/lang/IndexOutOfBoundsException", .declares ⟨"java/lang/RuntimeException", "<init>", "(Ljava/lang/String;)V"⟩, .declares ⟨"java/lang/Exception", "<init>", "(Ljava/lang/String;)V"⟩, .declares ⟨"java/lang/Throwable", "<init>", "(Ljava/lang/String;)V"⟩]) (fun w hw => hts w (List.mem_append_right _ hw)) (by decide +kernel) (vx_c (va_Nw.use rfl hT.eX) (vx_c (va_Nw.use rfl hT.d1) (vx_c (va_Nw.use rfl hT.d2) (vx_c (va_Nw.use rfl hT.d3) (vx_n)))))) (by decide +kernel) hT.zU hT.zS hS (hl.1.trans hml.symm) dX5_addGuest_9 dX5_addGuest_12 dX5_addGuest_13 dX5_addGuest_15 dX5_addGuest_18 (fun x hx => (hEx x hx).elim) (Nat.le_of_ble_eq_true rfl) (Nat.le_of_ble_eq_true rfl) (Nat.le_of_ble_eq_true rfl) (Nat.le_of_ble_eq_true rfl) hlocks (fun t ha hsz hk => ⟨(), trivial, ⟨rfl, hP9.kept (fun k q hq => hk q.1 (hP9 k q hq).lt), va_K.moved ha hK9, hD9⟩, Nat.le_trans hS.1 hsz, fun q h1 h2 => (hk q (Nat.lt_of_lt_of_le h1 hS.1)).trans (hS.2.1 q h1 h2)⟩) hS.2.2 (Nat.le_of_ble_eq_true rfl) (Nat.le_of_ble_eq_true rfl)
def vh_c_place : List Cond := .code yX5_place cX5_place 3 (some .int) :: ([Cond.code yX5_isRoom cX5_isRoom 3 (some .boolean), Cond.code yX5_isFloor cX5_isFloor 2 (some .boolean), Cond.fieldLink RX5 10 "HotelOfBells" "floors" "Ljava/util/ArrayList;", Cond.code yJx4a65c_size_8abf5 cJx4a65c_size_8abf5 1 (some .int), Cond.fieldLink RJx4a65c 48 "java/util/ArrayList" "size" "I", Cond.methodLink RX5 49 yJx4a65c_size_8abf5, Cond.instanceMethod yJx4a65c_size_8abf5, Cond.selects RJx4a65c yJx4a65c_size_8abf5 yJx4a65c_size_8abf5, Cond.initialized RJx4a65c, Cond.methodLink RX5 67 yX5_isFloor, Cond.instanceMethod yX5_isFloor, Cond.selects RX5 yX5_isFloor yX5_isFloor, Cond.initialized RX5, Cond.methodLink RX5 120 yX5_isRoom, Cond.instanceMethod yX5_isRoom, Cond.selects RX5 yX5_isRoom yX5_isRoom, Cond.classLink RX5 71 "java/lang/IndexOutOfBoundsException", Cond.initialized "java/lang/IndexOutOfBoundsException"] ++ (wsX50 ++ (wsJx4a65c0 ++ [])))
def v_c_place : List Cond := vh_c_place ++ (thrX)
theorem u_c_place_X5 : ∀ w ∈ wsX50, w ∈ v_c_place := fun _ h => List.mem_append_left _ (List.mem_cons_of_mem _ (List.mem_append_right _ (List.mem_append_left _ h)))
theorem u_c_place_Jx4a65c : ∀ w ∈ wsJx4a65c0, w ∈ v_c_place := fun _ h => List.mem_append_left _ (List.mem_cons_of_mem _ (List.mem_append_right _ (List.mem_append_right _ (List.mem_append_left _ h))))
theorem gg_c_place_c_isRoom : GoodIn v_c_place v_c_isRoom := goodIn_r _ [1, 2, 3, 4, 5, 6, 7, 8, 9, 10, 11, 12, 13, 19, 20, 21, 22, 23, 24, 25, 26, 27, 28, 29, 30] (by rfl) (by decide +kernel)
set_option maxHeartbeats 4000000 in
set_option maxRecDepth 100000 in
theorem c_place (l : Launch) (hl9 : l.stackTraces = false) (dC : Nat → ClassId) (dI : Nat → Nat → Nat) (tE : Nat) (h0 : Nat) (fq : Nat) (sq : Nat) (gq : Nat) (nq : Nat) (dq : Nat) (pq : Nat) (pl : Int32) (bl : Int32) (tb : Int32) (mc_fq : Int32) (p0 : Int32) (p1 : Int32) (sz : Nat) : vx_Met l yX5_place v_c_place ({ frames := 6, cells := 1, slots := 6, locals := 90 }) (va_Pc [.ref h0, .int p0, .int p1] (Pre0 dC dI tE sz [] [(h0, .inr (10, [.ref fq, .ref sq, .ref gq, .ref nq, .ref dq, .ref pq, .int pl, .int bl, .int tb])), (fq, .inr (4, [.int mc_fq, .ref tE, .int 0]))])) (va_Qi (fun (r : Int32) (_ : Unit) => False) (fun _ t => Pst dC dI [] (va_A [(h0, .inr (10, [.ref fq, .ref sq, .ref gq, .ref nq, .ref dq, .ref pq, .int pl, .int bl, .int tb])), (fq, .inr (4, [.int mc_fq, .ref tE, .int 0]))] sz) [(h0, .inr (10, [.ref fq, .ref sq, .ref gq, .ref nq, .ref dq, .ref pq, .int pl, .int bl, .int tb])), (fq, .inr (4, [.int mc_fq, .ref tE, .int 0]))] t) (va_A [(h0, .inr (10, [.ref fq, .ref sq, .ref gq, .ref nq, .ref dq, .ref pq, .int pl, .int bl, .int tb])), (fq, .inr (4, [.int mc_fq, .ref tE, .int 0]))] sz)) (vx_X (fun _ : Unit => True) (fun E _ t => E = "java/lang/IndexOutOfBoundsException" ∧ Pst dC dI [] (va_A [(h0, .inr (10, [.ref fq, .ref sq, .ref gq, .ref nq, .ref dq, .ref pq, .int pl, .int bl, .int tb])), (fq, .inr (4, [.int mc_fq, .ref tE, .int 0]))] sz) [(h0, .inr (10, [.ref fq, .ref sq, .ref gq, .ref nq, .ref dq, .ref pq, .int pl, .int bl, .int tb])), (fq, .inr (4, [.int mc_fq, .ref tE, .int 0]))] t) (va_A [(h0, .inr (10, [.ref fq, .ref sq, .ref gq, .ref nq, .ref dq, .ref pq, .int pl, .int bl, .int tb])), (fq, .inr (4, [.int mc_fq, .ref tE, .int 0]))] sz)) 1 6 (va_A [(h0, .inr (10, [.ref fq, .ref sq, .ref gq, .ref nq, .ref dq, .ref pq, .int pl, .int bl, .int tb])), (fq, .inr (4, [.int mc_fq, .ref tE, .int 0]))] sz) := by
  refine vx_ofW (cc := cX5_place) (maxL := 3) (ret := (some .int)) (by decide) rfl ?_
  intro p e s m args below meth c s₁ B hml hEx hv
  obtain ⟨rfl, hsz, hP, hK, hD0, hT⟩ := hv
  have hx := B.exec
  have hb := B.bytes
  have hr := B.returns
  have hts := atoms_spec (ws := v_c_place) B.pre
  have hown : s.vm.findClass RX5 = some m.cls := findClass_of_methodNamed B.named
  have hlocks := B.notSynchronized
  subst hsz
  have hD := hD0.self (sz := s.heap.size)
  generalize hAe : va_A [(h0, .inr (10, [.ref fq, .ref sq, .ref gq, .ref nq, .ref dq, .ref pq, .int pl, .int bl, .int tb])), (fq, .inr (4, [.int mc_fq, .ref tE, .int 0]))] s.heap.size = A at hD hT ⊢
  have hA : ∀ q : Nat, s.heap.size ≤ q → A q := fun q h => by rw [← hAe]; exact Or.inr h
  have hS : va_S A s.heap s.heap [] := va_S.rf
  have hl := lv_entry ([.ref h0, .int p0, .int p1]) (n := 3) (Nat.le_of_ble_eq_true rfl)
  rw [lg_entry_eq]
  generalize (lg_sl ([.ref h0, .int p0, .int p1]) ++ List.replicate (3 - (lg_sl ([.ref h0, .int p0, .int p1])).length) Slot.unset).toArray = ls at hl ⊢
  have hl : lv_has ls 3 [(0, .ref h0), (1, .int p0), (2, .int p1)] := hl
  refine lv_aload_n hx hb dX5_place_0 rfl (lv_at hl 0 rfl) ?_
  refine lv_iload_n hx hb dX5_place_1 rfl (lv_at hl 1 rfl) ?_
  refine lv_iload_n hx hb dX5_place_2 rfl (lv_at hl 2 rfl) ?_
  have hPc := hP.sub (ws' := [(h0, .inr (10, [.ref fq, .ref sq, .ref gq, .ref nq, .ref dq, .ref pq, .int pl, .int bl, .int tb])), (fq, .inr (4, [.int mc_fq, .ref tE, .int 0]))]) [0, 1] rfl
  have hDc := hD.sub (ws' := [(h0, .inr (10, [.ref fq, .ref sq, .ref gq, .ref nq, .ref dq, .ref pq, .int pl, .int bl, .int tb])), (fq, .inr (4, [.int mc_fq, .ref tE, .int 0]))]) [0, 1] (by decide) rfl
  have hKc := hK.sub (tys' := []) [] rfl
  have hFc := va_free (wc := [(h0, .inr (10, [.ref fq, .ref sq, .ref gq, .ref nq, .ref dq, .ref pq, .int pl, .int bl, .int tb])), (fq, .inr (4, [.int mc_fq, .ref tE, .int 0]))]) hD hS hA [0, 1] rfl
  refine va_calli (va_runV (As := [.int p0, .int p1]) (rest := []) ⟨hx, hb, hml, hown, hts⟩ (c_isRoom l hl9 dC dI tE h0 fq sq gq nq dq pq pl bl tb mc_fq p0 p1 _ ) (cwV 2 hts (goodIn_app (goodIn_r _ [14, 15, 16, 13] (by rfl) (by decide +kernel)) gg_c_place_c_isRoom) rfl rfl rfl (by decide +kernel) ⟨Nat.le_of_ble_eq_true rfl, Nat.le_of_ble_eq_true rfl⟩) ⟨Pre0.blind, va_recv hKc hPc (ci := 10) (q0 := 0) rfl rfl, Pre0.give hPc hKc hDc hT hS hFc⟩ rfl rfl hl.1 rfl (lv_room (Nat.le_of_ble_eq_true rfl)) dX5_place_3 ⟨Nat.le_of_ble_eq_true rfl, Nat.le_of_ble_eq_true rfl⟩) hS (fun q _ h => hFc q h) hFc (fun r_1 u t H1 locs ht hvm hw hB hz1 hk1 hS => ?_)
  obtain ⟨hP1, hK1, hD1⟩ := hB
  rw [ht] at hP1
  have hK1 := va_K.moved hvm.symm hK1
  obtain ⟨hP, hD⟩ := va_join (wr := []) (w1 := [(h0, .inr (10, [.ref fq, .ref sq, .ref gq, .ref nq, .ref dq, .ref pq, .int pl, .int bl, .int tb])), (fq, .inr (4, [.int mc_fq, .ref tE, .int 0]))]) hP hD [0, 1] [] rfl rfl (by decide) (by decide) hk1 hFc hP1 hD1
  generalize H1 = H at hP hS ⊢
  have hP : va_P (dC, dI) vwCl [(h0, .inr (10, [.ref fq, .ref sq, .ref gq, .ref nq, .ref dq, .ref pq, .int pl, .int bl, .int tb])), (fq, .inr (4, [.int mc_fq, .ref tE, .int 0]))] H := hP
  have hD : va_D A [(h0, .inr (10, [.ref fq, .ref sq, .ref gq, .ref nq, .ref dq, .ref pq, .int pl, .int bl, .int tb])), (fq, .inr (4, [.int mc_fq, .ref tE, .int 0]))] := hD
  refine W.widen (k := 0) (n := 0) (by omega) (by omega) ?_
  obtain rfl : r_1 = 0 := hw
  refine lv_if_ne (tgt := 19) hx hb dX5_place_6 (by decide) (fun c_2 => absurd (by decide) c_2) (fun _ => ?_)
  have hP9 := hP.sub (ws' := [(h0, .inr (10, [.ref fq, .ref sq, .ref gq, .ref nq, .ref dq, .ref pq, .int pl, .int bl, .int tb])), (fq, .inr (4, [.int mc_fq, .ref tE, .int 0]))]) [0, 1] rfl
  have hD9 := hD.sub (ws' := [(h0, .inr (10, [.ref fq, .ref sq, .ref gq, .ref nq, .ref dq, .ref pq, .int pl, .int bl, .int tb])), (fq, .inr (4, [.int mc_fq, .ref tE, .int 0]))]) [0, 1] (by decide) rfl
  have hK9 := hK.sub (tys' := []) [] rfl
  obtain ⟨sa, hstr⟩ := hT.s124
  exact vx_throwS (own := RX5) (cls := "java/lang/IndexOutOfBoundsException") (names := ["java/lang/RuntimeException", "java/lang/Exception"]) hx hb hl9 hown (by decide +kernel) (by decide +kernel) (hts (.classLink RX5 71 "java/lang/IndexOutOfBoundsException") (List.mem_of_getElem? (i := 17) rfl)) (hts (.initialized "java/lang/IndexOutOfBoundsException") (List.mem_of_getElem? (i := 18) rfl)) hstr (vx_hat (L := vx_atS RX5 75 "java/lang/IndexOutOfBoundsException" ["java/lang/RuntimeException", "java/lang/Exception"]) (B := [.castable "java/lang/IndexOutOfBoundsException" "java/lang/IndexOutOfBoundsException", .declares ⟨"java/lang/RuntimeException", "<init>", "(Ljava/lang/String;)V"⟩, .declares ⟨"java/lang/Exception", "<init>", "(Ljava/lang/String;)V"⟩, .declares ⟨"java/lang/Throwable", "<init>", "(Ljava/lang/String;)V"⟩]) (fun w hw => hts w (List.mem_append_right _ hw)) (by decide +kernel) (vx_c (va_Nw.use rfl hT.eX) (vx_c (va_Nw.use rfl hT.d1) (vx_c (va_Nw.use rfl hT.d2) (vx_c (va_Nw.use rfl hT.d3) (vx_n)))))) (by decide +kernel) hT.zU hT.zS hS (hl.1.trans hml.symm) dX5_place_9 dX5_place_12 dX5_place_13 dX5_place_15 dX5_place_18 (fun x hx => (hEx x hx).elim) (Nat.le_of_ble_eq_true rfl) (Nat.le_of_ble_eq_true rfl) (Nat.le_of_ble_eq_true rfl) (Nat.le_of_ble_eq_true rfl) hlocks (fun t ha hsz hk => ⟨(), trivial, ⟨rfl, hP9.kept (fun k q hq => hk q.1 (hP9 k q hq).lt), va_K.moved ha hK9, hD9⟩, Nat.le_trans hS.1 hsz, fun q h1 h2 => (hk q (Nat.lt_of_lt_of_le h1 hS.1)).trans (hS.2.1 q h1 h2)⟩) hS.2.2 (Nat.le_of_ble_eq_true rfl) (Nat.le_of_ble_eq_true rfl)
def v_c_guestsAtHome : List Cond := .code yX5_guestsAtHome cX5_guestsAtHome 3 (some .int) :: ([Cond.fieldLink RX5 19 "HotelOfBells" "guests" "Ljava/util/ArrayList;", Cond.code yJx4a65c_size_8abf5 cJx4a65c_size_8abf5 1 (some .int), Cond.fieldLink RJx4a65c 48 "java/util/ArrayList" "size" "I", Cond.methodLink RX5 49 yJx4a65c_size_8abf5, Cond.instanceMethod yJx4a65c_size_8abf5, Cond.selects RJx4a65c yJx4a65c_size_8abf5 yJx4a65c_size_8abf5, Cond.initialized RJx4a65c] ++ (wsX50 ++ (wsJx4a65c0 ++ [])))
theorem u_c_guestsAtHome_X5 : ∀ w ∈ wsX50, w ∈ v_c_guestsAtHome := fun _ h => List.mem_cons_of_mem _ (List.mem_append_right _ (List.mem_append_left _ h))
theorem u_c_guestsAtHome_Jx4a65c : ∀ w ∈ wsJx4a65c0, w ∈ v_c_guestsAtHome := fun _ h => List.mem_cons_of_mem _ (List.mem_append_right _ (List.mem_append_right _ (List.mem_append_left _ h)))
theorem gg_c_guestsAtHome_c_AL_size : GoodIn v_c_guestsAtHome v_c_AL_size := goodIn_r _ [2, 3, 17, 18, 19] (by rfl) (by decide +kernel)
set_option maxHeartbeats 4000000 in
set_option maxRecDepth 100000 in
theorem c_guestsAtHome (l : Launch) (hl9 : l.stackTraces = false) (dC : Nat → ClassId) (dI : Nat → Nat → Nat) (tE : Nat) (h0 : Nat) (fq : Nat) (sq : Nat) (gq : Nat) (nq : Nat) (dq : Nat) (pq : Nat) (pl : Int32) (bl : Int32) (tb : Int32) (mc_gq : Int32) (sz : Nat) : Met l yX5_guestsAtHome v_c_guestsAtHome ({ frames := 1, cells := 0, slots := 0, locals := 20 }) (va_Pc [.ref h0] (Pre0 dC dI tE sz [] [(h0, .inr (10, [.ref fq, .ref sq, .ref gq, .ref nq, .ref dq, .ref pq, .int pl, .int bl, .int tb])), (gq, .inr (4, [.int mc_gq, .ref tE, .int 0]))])) (va_Qi (fun (r : Int32) (_ : Unit) => r = 0) (fun _ t => Pst dC dI [] (va_A [(h0, .inr (10, [.ref fq, .ref sq, .ref gq, .ref nq, .ref dq, .ref pq, .int pl, .int bl, .int tb])), (gq, .inr (4, [.int mc_gq, .ref tE, .int 0]))] sz) [(h0, .inr (10, [.ref fq, .ref sq, .ref gq, .ref nq, .ref dq, .ref pq, .int pl, .int bl, .int tb])), (gq, .inr (4, [.int mc_gq, .ref tE, .int 0]))] t) (va_A [(h0, .inr (10, [.ref fq, .ref sq, .ref gq, .ref nq, .ref dq, .ref pq, .int pl, .int bl, .int tb])), (gq, .inr (4, [.int mc_gq, .ref tE, .int 0]))] sz)) 0 0 (va_A [(h0, .inr (10, [.ref fq, .ref sq, .ref gq, .ref nq, .ref dq, .ref pq, .int pl, .int bl, .int tb])), (gq, .inr (4, [.int mc_gq, .ref tE, .int 0]))] sz) := by
  refine Met.ofW (cc := cX5_guestsAtHome) (maxL := 3) (ret := (some .int)) (by decide) rfl ?_
  intro p e s m args below meth c s₁ B hml hv
  obtain ⟨rfl, hsz, hP, hK, hD0, hT⟩ := hv
  have hx := B.exec
  have hb := B.bytes
  have hr := B.returns
  have hts := atoms_spec (ws := v_c_guestsAtHome) B.pre
  have hown : s.vm.findClass RX5 = some m.cls := findClass_of_methodNamed B.named
  have hlocks := B.notSynchronized
  subst hsz
  have hD := hD0.self (sz := s.heap.size)
  generalize hAe : va_A [(h0, .inr (10, [.ref fq, .ref sq, .ref gq, .ref nq, .ref dq, .ref pq, .int pl, .int bl, .int tb])), (gq, .inr (4, [.int mc_gq, .ref tE, .int 0]))] s.heap.size = A at hD hT ⊢
  have hA : ∀ q : Nat, s.heap.size ≤ q → A q := fun q h => by rw [← hAe]; exact Or.inr h
  have hS : va_S A s.heap s.heap [] := va_S.rf
  have hl := lv_entry ([.ref h0]) (n := 3) (Nat.le_of_ble_eq_true rfl)
  rw [lg_entry_eq]
  generalize (lg_sl ([.ref h0]) ++ List.replicate (3 - (lg_sl ([.ref h0])).length) Slot.unset).toArray = ls at hl ⊢
  have hl : lv_has ls 3 [(0, .ref h0)] := hl
  refine lv_iconst (v := 0) hx hb dX5_guestsAtHome_0 (by decide) ?_
  refine lv_istore_n (lv' := [(1, .int 0), (0, .ref h0)]) hx hb dX5_guestsAtHome_1 rfl hl (by decide) rfl (fun ls hl => ?_)
  refine lv_iconst (v := 0) hx hb dX5_guestsAtHome_2 (by decide) ?_
  refine lv_istore_n (lv' := [(2, .int 0), (1, .int 0), (0, .ref h0)]) hx hb dX5_guestsAtHome_3 rfl hl (by decide) rfl (fun ls hl => ?_)
  refine lv_iload_n hx hb dX5_guestsAtHome_4 rfl (lv_at hl 0 rfl) ?_
  refine lv_aload_n hx hb dX5_guestsAtHome_5 rfl (lv_at hl 2 rfl) ?_
  refine va_get (D := (dC, dI)) (ci := 10) (v := .ref gq) (C := RX5) (T := TX5) (N := 9) hx hb hts u_c_guestsAtHome_X5 hown hK hP 0 rfl rfl 2 (by decide) (hts (.fieldLink RX5 19 "HotelOfBells" "guests" "Ljava/util/ArrayList;") (List.mem_of_getElem? (i := 1) rfl)) (fun _ h9 => h9) rfl dX5_guestsAtHome_6 ?_
  have hPc := hP.sub (ws' := [(gq, .inr (4, [.int mc_gq, .ref tE, .int 0]))]) [1] rfl
  have hDc := hD.sub (ws' := [(gq, .inr (4, [.int mc_gq, .ref tE, .int 0]))]) [1] (by decide) rfl
  have hKc := hK.sub (tys' := []) [] rfl
  have hFc := va_free (wc := [(gq, .inr (4, [.int mc_gq, .ref tE, .int 0]))]) hD hS hA [1] rfl
  refine va_calli (va_runV (As := []) (rest := [.int 0]) ⟨hx, hb, hml, hown, hts⟩ (c_AL_size l hl9 dC dI tE gq mc_gq 0 (.ref tE) _ ) (cwV 0 hts (goodIn_app (goodIn_r _ [4, 5, 6, 7] (by rfl) (by decide +kernel)) gg_c_guestsAtHome_c_AL_size) rfl rfl rfl (by decide +kernel) ⟨Nat.le_of_ble_eq_true rfl, Nat.le_of_ble_eq_true rfl⟩) ⟨Pre0.blind, va_recv hKc hPc (ci := 4) (q0 := 0) rfl rfl, Pre0.give hPc hKc hDc hT hS hFc⟩ rfl rfl hl.1 rfl (lv_room (Nat.le_of_ble_eq_true rfl)) dX5_guestsAtHome_9 ⟨Nat.le_of_ble_eq_true rfl, Nat.le_of_ble_eq_true rfl⟩) hS (fun q _ h => hFc q h) hFc (fun r_1 u t H1 locs ht hvm hw hB hz1 hk1 hS => ?_)
  obtain ⟨hP1, hK1, hD1⟩ := hB
  rw [ht] at hP1
  have hK1 := va_K.moved hvm.symm hK1
  obtain ⟨hP, hD⟩ := va_join (wr := [(h0, .inr (10, [.ref fq, .ref sq, .ref gq, .ref nq, .ref dq, .ref pq, .int pl, .int bl, .int tb]))]) (w1 := [(gq, .inr (4, [.int mc_gq, .ref tE, .int 0]))]) hP hD [1] [0] rfl rfl (by decide) (by decide) hk1 hFc hP1 hD1
  generalize H1 = H at hP hS ⊢
  have hP : va_P (dC, dI) vwCl [(h0, .inr (10, [.ref fq, .ref sq, .ref gq, .ref nq, .ref dq, .ref pq, .int pl, .int bl, .int tb])), (gq, .inr (4, [.int mc_gq, .ref tE, .int 0]))] H := hP
  have hD : va_D A [(h0, .inr (10, [.ref fq, .ref sq, .ref gq, .ref nq, .ref dq, .ref pq, .int pl, .int bl, .int tb])), (gq, .inr (4, [.int mc_gq, .ref tE, .int 0]))] := hD
  refine W.widen (k := 0) (n := 0) (by omega) (by omega) ?_
  obtain rfl : r_1 = 0 := hw
  refine lv_icmp_ge (tgt := 41) hx hb dX5_guestsAtHome_12 (by decide) (fun _ => ?_) (fun c_2 => absurd (by decide) c_2)
  refine lv_iload_n hx hb dX5_guestsAtHome_41 rfl (lv_at hl 1 rfl) ?_
  have hP9 := hP.sub (ws' := [(h0, .inr (10, [.ref fq, .ref sq, .ref gq, .ref nq, .ref dq, .ref pq, .int pl, .int bl, .int tb])), (gq, .inr (4, [.int mc_gq, .ref tE, .int 0]))]) [0, 1] rfl
  have hD9 := hD.sub (ws' := [(h0, .inr (10, [.ref fq, .ref sq, .ref gq, .ref nq, .ref dq, .ref pq, .int pl, .int bl, .int tb])), (gq, .inr (4, [.int mc_gq, .ref tE, .int 0]))]) [0, 1] (by decide) rfl
  have hK9 := hK.sub (tys' := []) [] rfl
  exact W.iret (v := 0) hx hb hr (fun t ht hW => ⟨⟨0, (), rfl, rfl, by rw [ht]; exact hP9, va_K.moved hW.alike hK9, hD9⟩, hS.F ht⟩) hS.2.2 dX5_guestsAtHome_42
def v_c_guestsIn : List Cond := .code yX5_guestsIn cX5_guestsIn 4 (some .int) :: ([Cond.fieldLink RX5 19 "HotelOfBells" "guests" "Ljava/util/ArrayList;", Cond.code yJx4a65c_size_8abf5 cJx4a65c_size_8abf5 1 (some .int), Cond.fieldLink RJx4a65c 48 "java/util/ArrayList" "size" "I", Cond.methodLink RX5 49 yJx4a65c_size_8abf5, Cond.instanceMethod yJx4a65c_size_8abf5, Cond.selects RJx4a65c yJx4a65c_size_8abf5 yJx4a65c_size_8abf5, Cond.initialized RJx4a65c] ++ (wsX50 ++ (wsJx4a65c0 ++ [])))
theorem u_c_guestsIn_X5 : ∀ w ∈ wsX50, w ∈ v_c_guestsIn := fun _ h => List.mem_cons_of_mem _ (List.mem_append_right _ (List.mem_append_left _ h))
theorem u_c_guestsIn_Jx4a65c : ∀ w ∈ wsJx4a65c0, w ∈ v_c_guestsIn := fun _ h => List.mem_cons_of_mem _ (List.mem_append_right _ (List.mem_append_right _ (List.mem_append_left _ h)))
theorem gg_c_guestsIn_c_AL_size : GoodIn v_c_guestsIn v_c_AL_size := goodIn_r _ [2, 3, 17, 18, 19] (by rfl) (by decide +kernel)
set_option maxHeartbeats 4000000 in
set_option maxRecDepth 100000 in
theorem c_guestsIn (l : Launch) (hl9 : l.stackTraces = false) (dC : Nat → ClassId) (dI : Nat → Nat → Nat) (tE : Nat) (h0 : Nat) (fq : Nat) (sq : Nat) (gq : Nat) (nq : Nat) (dq : Nat) (pq : Nat) (pl : Int32) (bl : Int32) (tb : Int32) (mc_gq : Int32) (p0 : Int32) (sz : Nat) : Met l yX5_guestsIn v_c_guestsIn ({ frames := 1, cells := 0, slots := 0, locals := 20 }) (va_Pc [.ref h0, .int p0] (Pre0 dC dI tE sz [] [(h0, .inr (10, [.ref fq, .ref sq, .ref gq, .ref nq, .ref dq, .ref pq, .int pl, .int bl, .int tb])), (gq, .inr (4, [.int mc_gq, .ref tE, .int 0]))])) (va_Qi (fun (r : Int32) (_ : Unit) => r = 0) (fun _ t => Pst dC dI [] (va_A [(h0, .inr (10, [.ref fq, .ref sq, .ref gq, .ref nq, .ref dq, .ref pq, .int pl, .int bl, .int tb])), (gq, .inr (4, [.int mc_gq, .ref tE, .int 0]))] sz) [(h0, .inr (10, [.ref fq, .ref sq, .ref gq, .ref nq, .ref dq, .ref pq, .int pl, .int bl, .int tb])), (gq, .inr (4, [.int mc_gq, .ref tE, .int 0]))] t) (va_A [(h0, .inr (10, [.ref fq, .ref sq, .ref gq, .ref nq, .ref dq, .ref pq, .int pl, .int bl, .int tb])), (gq, .inr (4, [.int mc_gq, .ref tE, .int 0]))] sz)) 0 0 (va_A [(h0, .inr (10, [.ref fq, .ref sq, .ref gq, .ref nq, .ref dq, .ref pq, .int pl, .int bl, .int tb])), (gq, .inr (4, [.int mc_gq, .ref tE, .int 0]))] sz) := by
  refine Met.ofW (cc := cX5_guestsIn) (maxL := 4) (ret := (some .int)) (by decide) rfl ?_
  intro p e s m args below meth c s₁ B hml hv
  obtain ⟨rfl, hsz, hP, hK, hD0, hT⟩ := hv
  have hx := B.exec
  have hb := B.bytes
  have hr := B.returns
  have hts := atoms_spec (ws := v_c_guestsIn) B.pre
  have hown : s.vm.findClass RX5 = some m.cls := findClass_of_methodNamed B.named
  have hlocks := B.notSynchronized
  subst hsz
  have hD := hD0.self (sz := s.heap.size)
  generalize hAe : va_A [(h0, .inr (10, [.ref fq, .ref sq, .ref gq, .ref nq, .ref dq, .ref pq, .int pl, .int bl, .int tb])), (gq, .inr (4, [.int mc_gq, .ref tE, .int 0]))] s.heap.size = A at hD hT ⊢
  have hA : ∀ q : Nat, s.heap.size ≤ q → A q := fun q h => by rw [← hAe]; exact Or.inr h
  have hS : va_S A s.heap s.heap [] := va_S.rf
  have hl := lv_entry ([.ref h0, .int p0]) (n := 4) (Nat.le_of_ble_eq_true rfl)
  rw [lg_entry_eq]
  generalize (lg_sl ([.ref h0, .int p0]) ++ List.replicate (4 - (lg_sl ([.ref h0, .int p0])).length) Slot.unset).toArray = ls at hl ⊢
  have hl : lv_has ls 4 [(0, .ref h0), (1, .int p0)] := hl
  refine lv_iconst (v := 0) hx hb dX5_guestsIn_0 (by decide) ?_
  refine lv_istore_n (lv' := [(2, .int 0), (0, .ref h0), (1, .int p0)]) hx hb dX5_guestsIn_1 rfl hl (by decide) rfl (fun ls hl => ?_)
  refine lv_iconst (v := 0) hx hb dX5_guestsIn_2 (by decide) ?_
  refine lv_istore_n (lv' := [(3, .int 0), (2, .int 0), (0, .ref h0), (1, .int p0)]) hx hb dX5_guestsIn_3 rfl hl (by decide) rfl (fun ls hl => ?_)
  refine lv_iload_n hx hb dX5_guestsIn_4 rfl (lv_at hl 0 rfl) ?_
  refine lv_aload_n hx hb dX5_guestsIn_5 rfl (lv_at hl 2 rfl) ?_
  refine va_get (D := (dC, dI)) (ci := 10) (v := .ref gq) (C := RX5) (T := TX5) (N := 9) hx hb hts u_c_guestsIn_X5 hown hK hP 0 rfl rfl 2 (by decide) (hts (.fieldLink RX5 19 "HotelOfBells" "guests" "Ljava/util/ArrayList;") (List.mem_of_getElem? (i := 1) rfl)) (fun _ h9 => h9) rfl dX5_guestsIn_6 ?_
  have hPc := hP.sub (ws' := [(gq, .inr (4, [.int mc_gq, .ref tE, .int 0]))]) [1] rfl
  have hDc := hD.sub (ws' := [(gq, .inr (4, [.int mc_gq, .ref tE, .int 0]))]) [1] (by decide) rfl
  have hKc := hK.sub (tys' := []) [] rfl
  have hFc := va_free (wc := [(gq, .inr (4, [.int mc_gq, .ref tE, .int 0]))]) hD hS hA [1] rfl
  refine va_calli (va_runV (As := []) (rest := [.int 0]) ⟨hx, hb, hml, hown, hts⟩ (c_AL_size l hl9 dC dI tE gq mc_gq 0 (.ref tE) _ ) (cwV 0 hts (goodIn_app (goodIn_r _ [4, 5, 6, 7] (by rfl) (by decide +kernel)) gg_c_guestsIn_c_AL_size) rfl rfl rfl (by decide +kernel) ⟨Nat.le_of_ble_eq_true rfl, Nat.le_of_ble_eq_true rfl⟩) ⟨Pre0.blind, va_recv hKc hPc (ci := 4) (q0 := 0) rfl rfl, Pre0.give hPc hKc hDc hT hS hFc⟩ rfl rfl hl.1 rfl (lv_room (Nat.le_of_ble_eq_true rfl)) dX5_guestsIn_9 ⟨Nat.le_of_ble_eq_true rfl, Nat.le_of_ble_eq_true rfl⟩) hS (fun q _ h => hFc q h) hFc (fun r_1 u t H1 locs ht hvm hw hB hz1 hk1 hS => ?_)
  obtain ⟨hP1, hK1, hD1⟩ := hB
  rw [ht] at hP1
  have hK1 := va_K.moved hvm.symm hK1
  obtain ⟨hP, hD⟩ := va_join (wr := [(h0, .inr (10, [.ref fq, .ref sq, .ref gq, .ref nq, .ref dq, .ref pq, .int pl, .int bl, .int tb]))]) (w1 := [(gq, .inr (4, [.int mc_gq, .ref tE, .int 0]))]) hP hD [1] [0] rfl rfl (by decide) (by decide) hk1 hFc hP1 hD1
  generalize H1 = H at hP hS ⊢
  have hP : va_P (dC, dI) vwCl [(h0, .inr (10, [.ref fq, .ref sq, .ref gq, .ref nq, .ref dq, .ref pq, .int pl, .int bl, .int tb])), (gq, .inr (4, [.int mc_gq, .ref tE, .int 0]))] H := hP
  have hD : va_D A [(h0, .inr (10, [.ref fq, .ref sq, .ref gq, .ref nq, .ref dq, .ref pq, .int pl, .int bl, .int tb])), (gq, .inr (4, [.int mc_gq, .ref tE, .int 0]))] := hD
  refine W.widen (k := 0) (n := 0) (by omega) (by omega) ?_
  obtain rfl : r_1 = 0 := hw
  refine lv_icmp_ge (tgt := 42) hx hb dX5_guestsIn_12 (by decide) (fun _ => ?_) (fun c_2 => absurd (by decide) c_2)
  refine lv_iload_n hx hb dX5_guestsIn_42 rfl (lv_at hl 1 rfl) ?_
  have hP9 := hP.sub (ws' := [(h0, .inr (10, [.ref fq, .ref sq, .ref gq, .ref nq, .ref dq, .ref pq, .int pl, .int bl, .int tb])), (gq, .inr (4, [.int mc_gq, .ref tE, .int 0]))]) [0, 1] rfl
  have hD9 := hD.sub (ws' := [(h0, .inr (10, [.ref fq, .ref sq, .ref gq, .ref nq, .ref dq, .ref pq, .int pl, .int bl, .int tb])), (gq, .inr (4, [.int mc_gq, .ref tE, .int 0]))]) [0, 1] (by decide) rfl
  have hK9 := hK.sub (tys' := []) [] rfl
  exact W.iret (v := 0) hx hb hr (fun t ht hW => ⟨⟨0, (), rfl, rfl, by rw [ht]; exact hP9, va_K.moved hW.alike hK9, hD9⟩, hS.F ht⟩) hS.2.2 dX5_guestsIn_43
def v_c_guestsRiding : List Cond := .code yX5_guestsRiding cX5_guestsRiding 1 (some .int) :: ([Cond.fieldLink RX5 19 "HotelOfBells" "guests" "Ljava/util/ArrayList;", Cond.code yJx4a65c_size_8abf5 cJx4a65c_size_8abf5 1 (some .int), Cond.fieldLink RJx4a65c 48 "java/util/ArrayList" "size" "I", Cond.methodLink RX5 49 yJx4a65c_size_8abf5, Cond.instanceMethod yJx4a65c_size_8abf5, Cond.selects RJx4a65c yJx4a65c_size_8abf5 yJx4a65c_size_8abf5, Cond.initialized RJx4a65c, Cond.code yX5_guestsIn cX5_guestsIn 4 (some .int), Cond.methodLink RX5 176 yX5_guestsIn, Cond.instanceMethod yX5_guestsIn, Cond.selects RX5 yX5_guestsIn yX5_guestsIn, Cond.initialized RX5] ++ (wsX50 ++ (wsJx4a65c0 ++ [])))
theorem u_c_guestsRiding_X5 : ∀ w ∈ wsX50, w ∈ v_c_guestsRiding := fun _ h => List.mem_cons_of_mem _ (List.mem_append_right _ (List.mem_append_left _ h))
theorem u_c_guestsRiding_Jx4a65c : ∀ w ∈ wsJx4a65c0, w ∈ v_c_guestsRiding := fun _ h => List.mem_cons_of_mem _ (List.mem_append_right _ (List.mem_append_right _ (List.mem_append_left _ h)))
theorem gg_c_guestsRiding_c_AL_size : GoodIn v_c_guestsRiding v_c_AL_size := goodIn_r _ [2, 3, 22, 23, 24] (by rfl) (by decide +kernel)
theorem gg_c_guestsRiding_c_guestsIn : GoodIn v_c_guestsRiding v_c_guestsIn := goodIn_r _ [8, 1, 2, 3, 4, 5, 6, 7, 13, 14, 15, 16, 17, 18, 19, 20, 21, 22, 23, 24] (by rfl) (by decide +kernel)
set_option maxHeartbeats 4000000 in
set_option maxRecDepth 100000 in
theorem c_guestsRiding (l : Launch) (hl9 : l.stackTraces = false) (dC : Nat → ClassId) (dI : Nat → Nat → Nat) (tE : Nat) (h0 : Nat) (fq : Nat) (sq : Nat) (gq : Nat) (nq : Nat) (dq : Nat) (pq : Nat) (pl : Int32) (bl : Int32) (tb : Int32) (mc_gq : Int32) (sz : Nat) : Met l yX5_guestsRiding v_c_guestsRiding ({ frames := 2, cells := 0, slots := 0, locals := 43 }) (va_Pc [.ref h0] (Pre0 dC dI tE sz [] [(h0, .inr (10, [.ref fq, .ref sq, .ref gq, .ref nq, .ref dq, .ref pq, .int pl, .int bl, .int tb])), (gq, .inr (4, [.int mc_gq, .ref tE, .int 0]))])) (va_Qi (fun (r : Int32) (_ : Unit) => r = 0) (fun _ t => Pst dC dI [] (va_A [(h0, .inr (10, [.ref fq, .ref sq, .ref gq, .ref nq, .ref dq, .ref pq, .int pl, .int bl, .int tb])), (gq, .inr (4, [.int mc_gq, .ref tE, .int 0]))] sz) [(h0, .inr (10, [.ref fq, .ref sq, .ref gq, .ref nq, .ref dq, .ref pq, .int pl, .int bl, .int tb])), (gq, .inr (4, [.int mc_gq, .ref tE, .int 0]))] t) (va_A [(h0, .inr (10, [.ref fq, .ref sq, .ref gq, .ref nq, .ref dq, .ref pq, .int pl, .int bl, .int tb])), (gq, .inr (4, [.int mc_gq, .ref tE, .int 0]))] sz)) 0 0 (va_A [(h0, .inr (10, [.ref fq, .ref sq, .ref gq, .ref nq, .ref dq, .ref pq, .int pl, .int bl, .int tb])), (gq, .inr (4, [.int mc_gq, .ref tE, .int 0]))] sz) := by
  refine Met.ofW (cc := cX5_guestsRiding) (maxL := 1) (ret := (some .int)) (by decide) rfl ?_
  intro p e s m args below meth c s₁ B hml hv
  obtain ⟨rfl, hsz, hP, hK, hD0, hT⟩ := hv
  have hx := B.exec
  have hb := B.bytes
  have hr := B.returns
  have hts := atoms_spec (ws := v_c_guestsRiding) B.pre
  have hown : s.vm.findClass RX5 = some m.cls := findClass_of_methodNamed B.named
  have hlocks := B.notSynchronized
  subst hsz
  have hD := hD0.self (sz := s.heap.size)
  generalize hAe : va_A [(h0, .inr (10, [.ref fq, .ref sq, .ref gq, .ref nq, .ref dq, .ref pq, .int pl, .int bl, .int tb])), (gq, .inr (4, [.int mc_gq, .ref tE, .int 0]))] s.heap.size = A at hD hT ⊢
  have hA : ∀ q : Nat, s.heap.size ≤ q → A q := fun q h => by rw [← hAe]; exact Or.inr h
  have hS : va_S A s.heap s.heap [] := va_S.rf
  have hl := lv_entry ([.ref h0]) (n := 1) (Nat.le_of_ble_eq_true rfl)
  rw [lg_entry_eq]
  generalize (lg_sl ([.ref h0]) ++ List.replicate (1 - (lg_sl ([.ref h0])).length) Slot.unset).toArray = ls at hl ⊢
  have hl : lv_has ls 1 [(0, .ref h0)] := hl
  refine lv_aload_n hx hb dX5_guestsRiding_0 rfl (lv_at hl 0 rfl) ?_
  refine va_get (D := (dC, dI)) (ci := 10) (v := .ref gq) (C := RX5) (T := TX5) (N := 9) hx hb hts u_c_guestsRiding_X5 hown hK hP 0 rfl rfl 2 (by decide) (hts (.fieldLink RX5 19 "HotelOfBells" "guests" "Ljava/util/ArrayList;") (List.mem_of_getElem? (i := 1) rfl)) (fun _ h9 => h9) rfl dX5_guestsRiding_1 ?_
  have hPc := hP.sub (ws' := [(gq, .inr (4, [.int mc_gq, .ref tE, .int 0]))]) [1] rfl
  have hDc := hD.sub (ws' := [(gq, .inr (4, [.int mc_gq, .ref tE, .int 0]))]) [1] (by decide) rfl
  have hKc := hK.sub (tys' := []) [] rfl
  have hFc := va_free (wc := [(gq, .inr (4, [.int mc_gq, .ref tE, .int 0]))]) hD hS hA [1] rfl
  refine va_calli (va_runV (As := []) (rest := []) ⟨hx, hb, hml, hown, hts⟩ (c_AL_size l hl9 dC dI tE gq mc_gq 0 (.ref tE) _ ) (cwV 0 hts (goodIn_app (goodIn_r _ [4, 5, 6, 7] (by rfl) (by decide +kernel)) gg_c_guestsRiding_c_AL_size) rfl rfl rfl (by decide +kernel) ⟨Nat.le_of_ble_eq_true rfl, Nat.le_of_ble_eq_true rfl⟩) ⟨Pre0.blind, va_recv hKc hPc (ci := 4) (q0 := 0) rfl rfl, Pre0.give hPc hKc hDc hT hS hFc⟩ rfl rfl hl.1 rfl (lv_room (Nat.le_of_ble_eq_true rfl)) dX5_guestsRiding_4 ⟨Nat.le_of_ble_eq_true rfl, Nat.le_of_ble_eq_true rfl⟩) hS (fun q _ h => hFc q h) hFc (fun r_1 u t H1 locs ht hvm hw hB hz1 hk1 hS => ?_)
  obtain ⟨hP1, hK1, hD1⟩ := hB
  rw [ht] at hP1
  have hK1 := va_K.moved hvm.symm hK1
  obtain ⟨hP, hD⟩ := va_join (wr := [(h0, .inr (10, [.ref fq, .ref sq, .ref gq, .ref nq, .ref dq, .ref pq, .int pl, .int bl, .int tb]))]) (w1 := [(gq, .inr (4, [.int mc_gq, .ref tE, .int 0]))]) hP hD [1] [0] rfl rfl (by decide) (by decide) hk1 hFc hP1 hD1
  generalize H1 = H at hP hS ⊢
  have hP : va_P (dC, dI) vwCl [(h0, .inr (10, [.ref fq, .ref sq, .ref gq, .ref nq, .ref dq, .ref pq, .int pl, .int bl, .int tb])), (gq, .inr (4, [.int mc_gq, .ref tE, .int 0]))] H := hP
  have hD : va_D A [(h0, .inr (10, [.ref fq, .ref sq, .ref gq, .ref nq, .ref dq, .ref pq, .int pl, .int bl, .int tb])), (gq, .inr (4, [.int mc_gq, .ref tE, .int 0]))] := hD
  refine W.widen (k := 0) (n := 0) (by omega) (by omega) ?_
  obtain rfl : r_1 = 0 := hw
  refine lv_aload_n hx hb dX5_guestsRiding_7 rfl (lv_at hl 0 rfl) ?_
  refine lv_iconst (v := (-1)) hx hb dX5_guestsRiding_8 (by decide) ?_
  have hPc := hP.sub (ws' := [(h0, .inr (10, [.ref fq, .ref sq, .ref gq, .ref nq, .ref dq, .ref pq, .int pl, .int bl, .int tb])), (gq, .inr (4, [.int mc_gq, .ref tE, .int 0]))]) [0, 1] rfl
  have hDc := hD.sub (ws' := [(h0, .inr (10, [.ref fq, .ref sq, .ref gq, .ref nq, .ref dq, .ref pq, .int pl, .int bl, .int tb])), (gq, .inr (4, [.int mc_gq, .ref tE, .int 0]))]) [0, 1] (by decide) rfl
  have hKc := hK.sub (tys' := []) [] rfl
  have hFc := va_free (wc := [(h0, .inr (10, [.ref fq, .ref sq, .ref gq, .ref nq, .ref dq, .ref pq, .int pl, .int bl, .int tb])), (gq, .inr (4, [.int mc_gq, .ref tE, .int 0]))]) hD hS hA [0, 1] rfl
  refine va_calli (va_runV (As := [.int (-1)]) (rest := [.int 0]) ⟨hx, hb, hml, hown, hts⟩ (c_guestsIn l hl9 dC dI tE h0 fq sq gq nq dq pq pl bl tb mc_gq (-1) _ ) (cwV 1 hts (goodIn_app (goodIn_r _ [9, 10, 11, 12] (by rfl) (by decide +kernel)) gg_c_guestsRiding_c_guestsIn) rfl rfl rfl (by decide +kernel) ⟨Nat.le_of_ble_eq_true rfl, Nat.le_of_ble_eq_true rfl⟩) ⟨Pre0.blind, va_recv hKc hPc (ci := 10) (q0 := 0) rfl rfl, Pre0.give hPc hKc hDc hT hS hFc⟩ rfl rfl hl.1 rfl (lv_room (Nat.le_of_ble_eq_true rfl)) dX5_guestsRiding_9 ⟨Nat.le_of_ble_eq_true rfl, Nat.le_of_ble_eq_true rfl⟩) hS (fun q _ h => hFc q h) hFc (fun r_2 u t H1 locs ht hvm hw hB hz1 hk1 hS => ?_)
  obtain ⟨hP1, hK1, hD1⟩ := hB
  rw [ht] at hP1
  have hK1 := va_K.moved hvm.symm hK1
  obtain ⟨hP, hD⟩ := va_join (wr := []) (w1 := [(h0, .inr (10, [.ref fq, .ref sq, .ref gq, .ref nq, .ref dq, .ref pq, .int pl, .int bl, .int tb])), (gq, .inr (4, [.int mc_gq, .ref tE, .int 0]))]) hP hD [0, 1] [] rfl rfl (by decide) (by decide) hk1 hFc hP1 hD1
  generalize H1 = H at hP hS ⊢
  have hP : va_P (dC, dI) vwCl [(h0, .inr (10, [.ref fq, .ref sq, .ref gq, .ref nq, .ref dq, .ref pq, .int pl, .int bl, .int tb])), (gq, .inr (4, [.int mc_gq, .ref tE, .int 0]))] H := hP
  have hD : va_D A [(h0, .inr (10, [.ref fq, .ref sq, .ref gq, .ref nq, .ref dq, .ref pq, .int pl, .int bl, .int tb])), (gq, .inr (4, [.int mc_gq, .ref tE, .int 0]))] := hD
  refine W.widen (k := 0) (n := 0) (by omega) (by omega) ?_
  obtain rfl : r_2 = 0 := hw
  refine lv_isub hx hb dX5_guestsRiding_12 ?_
  refine lv_topi (fun x_3 e_4 => ?_)
  obtain rfl : x_3 = 0 := e_4.trans (by decide)
  have hP9 := hP.sub (ws' := [(h0, .inr (10, [.ref fq, .ref sq, .ref gq, .ref nq, .ref dq, .ref pq, .int pl, .int bl, .int tb])), (gq, .inr (4, [.int mc_gq, .ref tE, .int 0]))]) [0, 1] rfl
  have hD9 := hD.sub (ws' := [(h0, .inr (10, [.ref fq, .ref sq, .ref gq, .ref nq, .ref dq, .ref pq, .int pl, .int bl, .int tb])), (gq, .inr (4, [.int mc_gq, .ref tE, .int 0]))]) [0, 1] (by decide) rfl
  have hK9 := hK.sub (tys' := []) [] rfl
  exact W.iret (v := 0) hx hb hr (fun t ht hW => ⟨⟨0, (), rfl, rfl, by rw [ht]; exact hP9, va_K.moved hW.alike hK9, hD9⟩, hS.F ht⟩) hS.2.2 dX5_guestsRiding_13
def v_c_count_0 : List Cond := .code yX5_count cX5_count 2 (some .int) :: ([Cond.fieldLink RX5 10 "HotelOfBells" "floors" "Ljava/util/ArrayList;", Cond.code yJx4a65c_size_8abf5 cJx4a65c_size_8abf5 1 (some .int), Cond.fieldLink RJx4a65c 48 "java/util/ArrayList" "size" "I", Cond.methodLink RX5 49 yJx4a65c_size_8abf5, Cond.instanceMethod yJx4a65c_size_8abf5, Cond.selects RJx4a65c yJx4a65c_size_8abf5 yJx4a65c_size_8abf5, Cond.initialized RJx4a65c] ++ (wsX50 ++ (wsJx4a65c0 ++ [])))
theorem u_c_count_0_X5 : ∀ w ∈ wsX50, w ∈ v_c_count_0 := fun _ h => List.mem_cons_of_mem _ (List.mem_append_right _ (List.mem_append_left _ h))
theorem u_c_count_0_Jx4a65c : ∀ w ∈ wsJx4a65c0, w ∈ v_c_count_0 := fun _ h => List.mem_cons_of_mem _ (List.mem_append_right _ (List.mem_append_right _ (List.mem_append_left _ h)))
theorem gg_c_count_0_c_AL_size : GoodIn v_c_count_0 v_c_AL_size := goodIn_r _ [2, 3, 17, 18, 19] (by rfl) (by decide +kernel)
set_option maxHeartbeats 4000000 in
set_option maxRecDepth 100000 in
theorem c_count_0 (l : Launch) (hl9 : l.stackTraces = false) (dC : Nat → ClassId) (dI : Nat → Nat → Nat) (tE : Nat) (h0 : Nat) (fq : Nat) (sq : Nat) (gq : Nat) (nq : Nat) (dq : Nat) (pq : Nat) (mc_fq : Int32) (sz : Nat) : Met l yX5_count v_c_count_0 ({ frames := 1, cells := 0, slots := 0, locals := 20 }) (va_Pc [.ref h0, .int 0] (Pre0 dC dI tE sz [] [(h0, .inr (10, [.ref fq, .ref sq, .ref gq, .ref nq, .ref dq, .ref pq, .int 0, .int 0, .int 0])), (fq, .inr (4, [.int mc_fq, .ref tE, .int 0]))])) (va_Qi (fun (r : Int32) (_ : Unit) => r = 0) (fun _ t => Pst dC dI [] (va_A [(h0, .inr (10, [.ref fq, .ref sq, .ref gq, .ref nq, .ref dq, .ref pq, .int 0, .int 0, .int 0])), (fq, .inr (4, [.int mc_fq, .ref tE, .int 0]))] sz) [(h0, .inr (10, [.ref fq, .ref sq, .ref gq, .ref nq, .ref dq, .ref pq, .int 0, .int 0, .int 0])), (fq, .inr (4, [.int mc_fq, .ref tE, .int 0]))] t) (va_A [(h0, .inr (10, [.ref fq, .ref sq, .ref gq, .ref nq, .ref dq, .ref pq, .int 0, .int 0, .int 0])), (fq, .inr (4, [.int mc_fq, .ref tE, .int 0]))] sz)) 0 0 (va_A [(h0, .inr (10, [.ref fq, .ref sq, .ref gq, .ref nq, .ref dq, .ref pq, .int 0, .int 0, .int 0])), (fq, .inr (4, [.int mc_fq, .ref tE, .int 0]))] sz) := by
  refine Met.ofW (cc := cX5_count) (maxL := 2) (ret := (some .int)) (by decide) rfl ?_
  intro p e s m args below meth c s₁ B hml hv
  obtain ⟨rfl, hsz, hP, hK, hD0, hT⟩ := hv
  have hx := B.exec
  have hb := B.bytes
  have hr := B.returns
  have hts := atoms_spec (ws := v_c_count_0) B.pre
  have hown : s.vm.findClass RX5 = some m.cls := findClass_of_methodNamed B.named
  have hlocks := B.notSynchronized
  subst hsz
  have hD := hD0.self (sz := s.heap.size)
  generalize hAe : va_A [(h0, .inr (10, [.ref fq, .ref sq, .ref gq, .ref nq, .ref dq, .ref pq, .int 0, .int 0, .int 0])), (fq, .inr (4, [.int mc_fq, .ref tE, .int 0]))] s.heap.size = A at hD hT ⊢
  have hA : ∀ q : Nat, s.heap.size ≤ q → A q := fun q h => by rw [← hAe]; exact Or.inr h
  have hS : va_S A s.heap s.heap [] := va_S.rf
  have hl := lv_entry ([.ref h0, .int 0]) (n := 2) (Nat.le_of_ble_eq_true rfl)
  rw [lg_entry_eq]
  generalize (lg_sl ([.ref h0, .int 0]) ++ List.replicate (2 - (lg_sl ([.ref h0, .int 0])).length) Slot.unset).toArray = ls at hl ⊢
  have hl : lv_has ls 2 [(0, .ref h0), (1, .int 0)] := hl
  refine lv_iload_n hx hb dX5_count_0 rfl (lv_at hl 1 rfl) ?_
  refine lv_tableIn (off := 47) (tgt := 48) hx hb dX5_count_1 (by decide) (by decide) rfl (by decide) ?_
  refine lv_aload_n hx hb dX5_count_48 rfl (lv_at hl 0 rfl) ?_
  refine va_get (D := (dC, dI)) (ci := 10) (v := .ref fq) (C := RX5) (T := TX5) (N := 9) hx hb hts u_c_count_0_X5 hown hK hP 0 rfl rfl 0 (by decide) (hts (.fieldLink RX5 10 "HotelOfBells" "floors" "Ljava/util/ArrayList;") (List.mem_of_getElem? (i := 1) rfl)) (fun _ h9 => h9) rfl dX5_count_49 ?_
  have hPc := hP.sub (ws' := [(fq, .inr (4, [.int mc_fq, .ref tE, .int 0]))]) [1] rfl
  have hDc := hD.sub (ws' := [(fq, .inr (4, [.int mc_fq, .ref tE, .int 0]))]) [1] (by decide) rfl
  have hKc := hK.sub (tys' := []) [] rfl
  have hFc := va_free (wc := [(fq, .inr (4, [.int mc_fq, .ref tE, .int 0]))]) hD hS hA [1] rfl
  refine va_calli (va_runV (As := []) (rest := []) ⟨hx, hb, hml, hown, hts⟩ (c_AL_size l hl9 dC dI tE fq mc_fq 0 (.ref tE) _ ) (cwV 0 hts (goodIn_app (goodIn_r _ [4, 5, 6, 7] (by rfl) (by decide +kernel)) gg_c_count_0_c_AL_size) rfl rfl rfl (by decide +kernel) ⟨Nat.le_of_ble_eq_true rfl, Nat.le_of_ble_eq_true rfl⟩) ⟨Pre0.blind, va_recv hKc hPc (ci := 4) (q0 := 0) rfl rfl, Pre0.give hPc hKc hDc hT hS hFc⟩ rfl rfl hl.1 rfl (lv_room (Nat.le_of_ble_eq_true rfl)) dX5_count_52 ⟨Nat.le_of_ble_eq_true rfl, Nat.le_of_ble_eq_true rfl⟩) hS (fun q _ h => hFc q h) hFc (fun r_1 u t H1 locs ht hvm hw hB hz1 hk1 hS => ?_)
  obtain ⟨hP1, hK1, hD1⟩ := hB
  rw [ht] at hP1
  have hK1 := va_K.moved hvm.symm hK1
  obtain ⟨hP, hD⟩ := va_join (wr := [(h0, .inr (10, [.ref fq, .ref sq, .ref gq, .ref nq, .ref dq, .ref pq, .int 0, .int 0, .int 0]))]) (w1 := [(fq, .inr (4, [.int mc_fq, .ref tE, .int 0]))]) hP hD [1] [0] rfl rfl (by decide) (by decide) hk1 hFc hP1 hD1
  generalize H1 = H at hP hS ⊢
  have hP : va_P (dC, dI) vwCl [(h0, .inr (10, [.ref fq, .ref sq, .ref gq, .ref nq, .ref dq, .ref pq, .int 0, .int 0, .int 0])), (fq, .inr (4, [.int mc_fq, .ref tE, .int 0]))] H := hP
  have hD : va_D A [(h0, .inr (10, [.ref fq, .ref sq, .ref gq, .ref nq, .ref dq, .ref pq, .int 0, .int 0, .int 0])), (fq, .inr (4, [.int mc_fq, .ref tE, .int 0]))] := hD
  refine W.widen (k := 0) (n := 0) (by omega) (by omega) ?_
  obtain rfl : r_1 = 0 := hw
  have hP9 := hP.sub (ws' := [(h0, .inr (10, [.ref fq, .ref sq, .ref gq, .ref nq, .ref dq, .ref pq, .int 0, .int 0, .int 0])), (fq, .inr (4, [.int mc_fq, .ref tE, .int 0]))]) [0, 1] rfl
  have hD9 := hD.sub (ws' := [(h0, .inr (10, [.ref fq, .ref sq, .ref gq, .ref nq, .ref dq, .ref pq, .int 0, .int 0, .int 0])), (fq, .inr (4, [.int mc_fq, .ref tE, .int 0]))]) [0, 1] (by decide) rfl
  have hK9 := hK.sub (tys' := []) [] rfl
  exact W.iret (v := 0) hx hb hr (fun t ht hW => ⟨⟨0, (), rfl, rfl, by rw [ht]; exact hP9, va_K.moved hW.alike hK9, hD9⟩, hS.F ht⟩) hS.2.2 dX5_count_55
def v_c_count_1 : List Cond := .code yX5_count cX5_count 2 (some .int) :: ([Cond.fieldLink RX5 16 "HotelOfBells" "shafts" "Ljava/util/ArrayList;", Cond.code yJx4a65c_size_8abf5 cJx4a65c_size_8abf5 1 (some .int), Cond.fieldLink RJx4a65c 48 "java/util/ArrayList" "size" "I", Cond.methodLink RX5 49 yJx4a65c_size_8abf5, Cond.instanceMethod yJx4a65c_size_8abf5, Cond.selects RJx4a65c yJx4a65c_size_8abf5 yJx4a65c_size_8abf5, Cond.initialized RJx4a65c] ++ (wsX50 ++ (wsJx4a65c0 ++ [])))
theorem u_c_count_1_X5 : ∀ w ∈ wsX50, w ∈ v_c_count_1 := fun _ h => List.mem_cons_of_mem _ (List.mem_append_right _ (List.mem_append_left _ h))
theorem u_c_count_1_Jx4a65c : ∀ w ∈ wsJx4a65c0, w ∈ v_c_count_1 := fun _ h => List.mem_cons_of_mem _ (List.mem_append_right _ (List.mem_append_right _ (List.mem_append_left _ h)))
theorem gg_c_count_1_c_AL_size : GoodIn v_c_count_1 v_c_AL_size := goodIn_r _ [2, 3, 17, 18, 19] (by rfl) (by decide +kernel)
set_option maxHeartbeats 4000000 in
set_option maxRecDepth 100000 in
theorem c_count_1 (l : Launch) (hl9 : l.stackTraces = false) (dC : Nat → ClassId) (dI : Nat → Nat → Nat) (tE : Nat) (h0 : Nat) (fq : Nat) (sq : Nat) (gq : Nat) (nq : Nat) (dq : Nat) (pq : Nat) (mc_sq : Int32) (sz : Nat) : Met l yX5_count v_c_count_1 ({ frames := 1, cells := 0, slots := 0, locals := 20 }) (va_Pc [.ref h0, .int 1] (Pre0 dC dI tE sz [] [(h0, .inr (10, [.ref fq, .ref sq, .ref gq, .ref nq, .ref dq, .ref pq, .int 0, .int 0, .int 0])), (sq, .inr (4, [.int mc_sq, .ref tE, .int 0]))])) (va_Qi (fun (r : Int32) (_ : Unit) => r = 0) (fun _ t => Pst dC dI [] (va_A [(h0, .inr (10, [.ref fq, .ref sq, .ref gq, .ref nq, .ref dq, .ref pq, .int 0, .int 0, .int 0])), (sq, .inr (4, [.int mc_sq, .ref tE, .int 0]))] sz) [(h0, .inr (10, [.ref fq, .ref sq, .ref gq, .ref nq, .ref dq, .ref pq, .int 0, .int 0, .int 0])), (sq, .inr (4, [.int mc_sq, .ref tE, .int 0]))] t) (va_A [(h0, .inr (10, [.ref fq, .ref sq, .ref gq, .ref nq, .ref dq, .ref pq, .int 0, .int 0, .int 0])), (sq, .inr (4, [.int mc_sq, .ref tE, .int 0]))] sz)) 0 0 (va_A [(h0, .inr (10, [.ref fq, .ref sq, .ref gq, .ref nq, .ref dq, .ref pq, .int 0, .int 0, .int 0])), (sq, .inr (4, [.int mc_sq, .ref tE, .int 0]))] sz) := by
  refine Met.ofW (cc := cX5_count) (maxL := 2) (ret := (some .int)) (by decide) rfl ?_
  intro p e s m args below meth c s₁ B hml hv
  obtain ⟨rfl, hsz, hP, hK, hD0, hT⟩ := hv
  have hx := B.exec
  have hb := B.bytes
  have hr := B.returns
  have hts := atoms_spec (ws := v_c_count_1) B.pre
  have hown : s.vm.findClass RX5 = some m.cls := findClass_of_methodNamed B.named
  have hlocks := B.notSynchronized
  subst hsz
  have hD := hD0.self (sz := s.heap.size)
  generalize hAe : va_A [(h0, .inr (10, [.ref fq, .ref sq, .ref gq, .ref nq, .ref dq, .ref pq, .int 0, .int 0, .int 0])), (sq, .inr (4, [.int mc_sq, .ref tE, .int 0]))] s.heap.size = A at hD hT ⊢
  have hA : ∀ q : Nat, s.heap.size ≤ q → A q := fun q h => by rw [← hAe]; exact Or.inr h
  have hS : va_S A s.heap s.heap [] := va_S.rf
  have hl := lv_entry ([.ref h0, .int 1]) (n := 2) (Nat.le_of_ble_eq_true rfl)
  rw [lg_entry_eq]
  generalize (lg_sl ([.ref h0, .int 1]) ++ List.replicate (2 - (lg_sl ([.ref h0, .int 1])).length) Slot.unset).toArray = ls at hl ⊢
  have hl : lv_has ls 2 [(0, .ref h0), (1, .int 1)] := hl
  refine lv_iload_n hx hb dX5_count_0 rfl (lv_at hl 1 rfl) ?_
  refine lv_tableIn (off := 55) (tgt := 56) hx hb dX5_count_1 (by decide) (by decide) rfl (by decide) ?_
  refine lv_aload_n hx hb dX5_count_56 rfl (lv_at hl 0 rfl) ?_
  refine va_get (D := (dC, dI)) (ci := 10) (v := .ref sq) (C := RX5) (T := TX5) (N := 9) hx hb hts u_c_count_1_X5 hown hK hP 0 rfl rfl 1 (by decide) (hts (.fieldLink RX5 16 "HotelOfBells" "shafts" "Ljava/util/ArrayList;") (List.mem_of_getElem? (i := 1) rfl)) (fun _ h9 => h9) rfl dX5_count_57 ?_
  have hPc := hP.sub (ws' := [(sq, .inr (4, [.int mc_sq, .ref tE, .int 0]))]) [1] rfl
  have hDc := hD.sub (ws' := [(sq, .inr (4, [.int mc_sq, .ref tE, .int 0]))]) [1] (by decide) rfl
  have hKc := hK.sub (tys' := []) [] rfl
  have hFc := va_free (wc := [(sq, .inr (4, [.int mc_sq, .ref tE, .int 0]))]) hD hS hA [1] rfl
  refine va_calli (va_runV (As := []) (rest := []) ⟨hx, hb, hml, hown, hts⟩ (c_AL_size l hl9 dC dI tE sq mc_sq 0 (.ref tE) _ ) (cwV 0 hts (goodIn_app (goodIn_r _ [4, 5, 6, 7] (by rfl) (by decide +kernel)) gg_c_count_1_c_AL_size) rfl rfl rfl (by decide +kernel) ⟨Nat.le_of_ble_eq_true rfl, Nat.le_of_ble_eq_true rfl⟩) ⟨Pre0.blind, va_recv hKc hPc (ci := 4) (q0 := 0) rfl rfl, Pre0.give hPc hKc hDc hT hS hFc⟩ rfl rfl hl.1 rfl (lv_room (Nat.le_of_ble_eq_true rfl)) dX5_count_60 ⟨Nat.le_of_ble_eq_true rfl, Nat.le_of_ble_eq_true rfl⟩) hS (fun q _ h => hFc q h) hFc (fun r_1 u t H1 locs ht hvm hw hB hz1 hk1 hS => ?_)
  obtain ⟨hP1, hK1, hD1⟩ := hB
  rw [ht] at hP1
  have hK1 := va_K.moved hvm.symm hK1
  obtain ⟨hP, hD⟩ := va_join (wr := [(h0, .inr (10, [.ref fq, .ref sq, .ref gq, .ref nq, .ref dq, .ref pq, .int 0, .int 0, .int 0]))]) (w1 := [(sq, .inr (4, [.int mc_sq, .ref tE, .int 0]))]) hP hD [1] [0] rfl rfl (by decide) (by decide) hk1 hFc hP1 hD1
  generalize H1 = H at hP hS ⊢
  have hP : va_P (dC, dI) vwCl [(h0, .inr (10, [.ref fq, .ref sq, .ref gq, .ref nq, .ref dq, .ref pq, .int 0, .int 0, .int 0])), (sq, .inr (4, [.int mc_sq, .ref tE, .int 0]))] H := hP
  have hD : va_D A [(h0, .inr (10, [.ref fq, .ref sq, .ref gq, .ref nq, .ref dq, .ref pq, .int 0, .int 0, .int 0])), (sq, .inr (4, [.int mc_sq, .ref tE, .int 0]))] := hD
  refine W.widen (k := 0) (n := 0) (by omega) (by omega) ?_
  obtain rfl : r_1 = 0 := hw
  have hP9 := hP.sub (ws' := [(h0, .inr (10, [.ref fq, .ref sq, .ref gq, .ref nq, .ref dq, .ref pq, .int 0, .int 0, .int 0])), (sq, .inr (4, [.int mc_sq, .ref tE, .int 0]))]) [0, 1] rfl
  have hD9 := hD.sub (ws' := [(h0, .inr (10, [.ref fq, .ref sq, .ref gq, .ref nq, .ref dq, .ref pq, .int 0, .int 0, .int 0])), (sq, .inr (4, [.int mc_sq, .ref tE, .int 0]))]) [0, 1] (by decide) rfl
  have hK9 := hK.sub (tys' := []) [] rfl
  exact W.iret (v := 0) hx hb hr (fun t ht hW => ⟨⟨0, (), rfl, rfl, by rw [ht]; exact hP9, va_K.moved hW.alike hK9, hD9⟩, hS.F ht⟩) hS.2.2 dX5_count_63
def v_c_count_2 : List Cond := .code yX5_count cX5_count 2 (some .int) :: ([Cond.fieldLink RX5 19 "HotelOfBells" "guests" "Ljava/util/ArrayList;", Cond.code yJx4a65c_size_8abf5 cJx4a65c_size_8abf5 1 (some .int), Cond.fieldLink RJx4a65c 48 "java/util/ArrayList" "size" "I", Cond.methodLink RX5 49 yJx4a65c_size_8abf5, Cond.instanceMethod yJx4a65c_size_8abf5, Cond.selects RJx4a65c yJx4a65c_size_8abf5 yJx4a65c_size_8abf5, Cond.initialized RJx4a65c] ++ (wsX50 ++ (wsJx4a65c0 ++ [])))
theorem u_c_count_2_X5 : ∀ w ∈ wsX50, w ∈ v_c_count_2 := fun _ h => List.mem_cons_of_mem _ (List.mem_append_right _ (List.mem_append_left _ h))
theorem u_c_count_2_Jx4a65c : ∀ w ∈ wsJx4a65c0, w ∈ v_c_count_2 := fun _ h => List.mem_cons_of_mem _ (List.mem_append_right _ (List.mem_append_right _ (List.mem_append_left _ h)))
theorem gg_c_count_2_c_AL_size : GoodIn v_c_count_2 v_c_AL_size := goodIn_r _ [2, 3, 17, 18, 19] (by rfl) (by decide +kernel)
set_option maxHeartbeats 4000000 in
set_option maxRecDepth 100000 in
theorem c_count_2 (l : Launch) (hl9 : l.stackTraces = false) (dC : Nat → ClassId) (dI : Nat → Nat → Nat) (tE : Nat) (h0 : Nat) (fq : Nat) (sq : Nat) (gq : Nat) (nq : Nat) (dq : Nat) (pq : Nat) (mc_gq : Int32) (sz : Nat) : Met l yX5_count v_c_count_2 ({ frames := 1, cells := 0, slots := 0, locals := 20 }) (va_Pc [.ref h0, .int 2] (Pre0 dC dI tE sz [] [(h0, .inr (10, [.ref fq, .ref sq, .ref gq, .ref nq, .ref dq, .ref pq, .int 0, .int 0, .int 0])), (gq, .inr (4, [.int mc_gq, .ref tE, .int 0]))])) (va_Qi (fun (r : Int32) (_ : Unit) => r = 0) (fun _ t => Pst dC dI [] (va_A [(h0, .inr (10, [.ref fq, .ref sq, .ref gq, .ref nq, .ref dq, .ref pq, .int 0, .int 0, .int 0])), (gq, .inr (4, [.int mc_gq, .ref tE, .int 0]))] sz) [(h0, .inr (10, [.ref fq, .ref sq, .ref gq, .ref nq, .ref dq, .ref pq, .int 0, .int 0, .int 0])), (gq, .inr (4, [.int mc_gq, .ref tE, .int 0]))] t) (va_A [(h0, .inr (10, [.ref fq, .ref sq, .ref gq, .ref nq, .ref dq, .ref pq, .int 0, .int 0, .int 0])), (gq, .inr (4, [.int mc_gq, .ref tE, .int 0]))] sz)) 0 0 (va_A [(h0, .inr (10, [.ref fq, .ref sq, .ref gq, .ref nq, .ref dq, .ref pq, .int 0, .int 0, .int 0])), (gq, .inr (4, [.int mc_gq, .ref tE, .int 0]))] sz) := by
  refine Met.ofW (cc := cX5_count) (maxL := 2) (ret := (some .int)) (by decide) rfl ?_
  intro p e s m args below meth c s₁ B hml hv
  obtain ⟨rfl, hsz, hP, hK, hD0, hT⟩ := hv
  have hx := B.exec
  have hb := B.bytes
  have hr := B.returns
  have hts := atoms_spec (ws := v_c_count_2) B.pre
  have hown : s.vm.findClass RX5 = some m.cls := findClass_of_methodNamed B.named
  have hlocks := B.notSynchronized
  subst hsz
  have hD := hD0.self (sz := s.heap.size)
  generalize hAe : va_A [(h0, .inr (10, [.ref fq, .ref sq, .ref gq, .ref nq, .ref dq, .ref pq, .int 0, .int 0, .int 0])), (gq, .inr (4, [.int mc_gq, .ref tE, .int 0]))] s.heap.size = A at hD hT ⊢
  have hA : ∀ q : Nat, s.heap.size ≤ q → A q := fun q h => by rw [← hAe]; exact Or.inr h
  have hS : va_S A s.heap s.heap [] := va_S.rf
  have hl := lv_entry ([.ref h0, .int 2]) (n := 2) (Nat.le_of_ble_eq_true rfl)
  rw [lg_entry_eq]
  generalize (lg_sl ([.ref h0, .int 2]) ++ List.replicate (2 - (lg_sl ([.ref h0, .int 2])).length) Slot.unset).toArray = ls at hl ⊢
  have hl : lv_has ls 2 [(0, .ref h0), (1, .int 2)] := hl
  refine lv_iload_n hx hb dX5_count_0 rfl (lv_at hl 1 rfl) ?_
  refine lv_tableIn (off := 63) (tgt := 64) hx hb dX5_count_1 (by decide) (by decide) rfl (by decide) ?_
  refine lv_aload_n hx hb dX5_count_64 rfl (lv_at hl 0 rfl) ?_
  refine va_get (D := (dC, dI)) (ci := 10) (v := .ref gq) (C := RX5) (T := TX5) (N := 9) hx hb hts u_c_count_2_X5 hown hK hP 0 rfl rfl 2 (by decide) (hts (.fieldLink RX5 19 "HotelOfBells" "guests" "Ljava/util/ArrayList;") (List.mem_of_getElem? (i := 1) rfl)) (fun _ h9 => h9) rfl dX5_count_65 ?_
  have hPc := hP.sub (ws' := [(gq, .inr (4, [.int mc_gq, .ref tE, .int 0]))]) [1] rfl
  have hDc := hD.sub (ws' := [(gq, .inr (4, [.int mc_gq, .ref tE, .int 0]))]) [1] (by decide) rfl
  have hKc := hK.sub (tys' := []) [] rfl
  have hFc := va_free (wc := [(gq, .inr (4, [.int mc_gq, .ref tE, .int 0]))]) hD hS hA [1] rfl
  refine va_calli (va_runV (As := []) (rest := []) ⟨hx, hb, hml, hown, hts⟩ (c_AL_size l hl9 dC dI tE gq mc_gq 0 (.ref tE) _ ) (cwV 0 hts (goodIn_app (goodIn_r _ [4, 5, 6, 7] (by rfl) (by decide +kernel)) gg_c_count_2_c_AL_size) rfl rfl rfl (by decide +kernel) ⟨Nat.le_of_ble_eq_true rfl, Nat.le_of_ble_eq_true rfl⟩) ⟨Pre0.blind, va_recv hKc hPc (ci := 4) (q0 := 0) rfl rfl, Pre0.give hPc hKc hDc hT hS hFc⟩ rfl rfl hl.1 rfl (lv_room (Nat.le_of_ble_eq_true rfl)) dX5_count_68 ⟨Nat.le_of_ble_eq_true rfl, Nat.le_of_ble_eq_true rfl⟩) hS (fun q _ h => hFc q h) hFc (fun r_1 u t H1 locs ht hvm hw hB hz1 hk1 hS => ?_)
  obtain ⟨hP1, hK1, hD1⟩ := hB
  rw [ht] at hP1
  have hK1 := va_K.moved hvm.symm hK1
  obtain ⟨hP, hD⟩ := va_join (wr := [(h0, .inr (10, [.ref fq, .ref sq, .ref gq, .ref nq, .ref dq, .ref pq, .int 0, .int 0, .int 0]))]) (w1 := [(gq, .inr (4, [.int mc_gq, .ref tE, .int 0]))]) hP hD [1] [0] rfl rfl (by decide) (by decide) hk1 hFc hP1 hD1
  generalize H1 = H at hP hS ⊢
  have hP : va_P (dC, dI) vwCl [(h0, .inr (10, [.ref fq, .ref sq, .ref gq, .ref nq, .ref dq, .ref pq, .int 0, .int 0, .int 0])), (gq, .inr (4, [.int mc_gq, .ref tE, .int 0]))] H := hP
  have hD : va_D A [(h0, .inr (10, [.ref fq, .ref sq, .ref gq, .ref nq, .ref dq, .ref pq, .int 0, .int 0, .int 0])), (gq, .inr (4, [.int mc_gq, .ref tE, .int 0]))] := hD
  refine W.widen (k := 0) (n := 0) (by omega) (by omega) ?_
  obtain rfl : r_1 = 0 := hw
  have hP9 := hP.sub (ws' := [(h0, .inr (10, [.ref fq, .ref sq, .ref gq, .ref nq, .ref dq, .ref pq, .int 0, .int 0, .int 0])), (gq, .inr (4, [.int mc_gq, .ref tE, .int 0]))]) [0, 1] rfl
  have hD9 := hD.sub (ws' := [(h0, .inr (10, [.ref fq, .ref sq, .ref gq, .ref nq, .ref dq, .ref pq, .int 0, .int 0, .int 0])), (gq, .inr (4, [.int mc_gq, .ref tE, .int 0]))]) [0, 1] (by decide) rfl
  have hK9 := hK.sub (tys' := []) [] rfl
  exact W.iret (v := 0) hx hb hr (fun t ht hW => ⟨⟨0, (), rfl, rfl, by rw [ht]; exact hP9, va_K.moved hW.alike hK9, hD9⟩, hS.F ht⟩) hS.2.2 dX5_count_71
def v_c_count_3 : List Cond := .code yX5_count cX5_count 2 (some .int) :: ([Cond.code yX5_guestsAtHome cX5_guestsAtHome 3 (some .int), Cond.fieldLink RX5 19 "HotelOfBells" "guests" "Ljava/util/ArrayList;", Cond.code yJx4a65c_size_8abf5 cJx4a65c_size_8abf5 1 (some .int), Cond.fieldLink RJx4a65c 48 "java/util/ArrayList" "size" "I", Cond.methodLink RX5 49 yJx4a65c_size_8abf5, Cond.instanceMethod yJx4a65c_size_8abf5, Cond.selects RJx4a65c yJx4a65c_size_8abf5 yJx4a65c_size_8abf5, Cond.initialized RJx4a65c, Cond.methodLink RX5 194 yX5_guestsAtHome, Cond.instanceMethod yX5_guestsAtHome, Cond.selects RX5 yX5_guestsAtHome yX5_guestsAtHome, Cond.initialized RX5] ++ (wsX50 ++ (wsJx4a65c0 ++ [])))
theorem u_c_count_3_X5 : ∀ w ∈ wsX50, w ∈ v_c_count_3 := fun _ h => List.mem_cons_of_mem _ (List.mem_append_right _ (List.mem_append_left _ h))
theorem u_c_count_3_Jx4a65c : ∀ w ∈ wsJx4a65c0, w ∈ v_c_count_3 := fun _ h => List.mem_cons_of_mem _ (List.mem_append_right _ (List.mem_append_right _ (List.mem_append_left _ h)))
theorem gg_c_count_3_c_guestsAtHome : GoodIn v_c_count_3 v_c_guestsAtHome := goodIn_r _ [1, 2, 3, 4, 5, 6, 7, 8, 13, 14, 15, 16, 17, 18, 19, 20, 21, 22, 23, 24] (by rfl) (by decide +kernel)
set_option maxHeartbeats 4000000 in
set_option maxRecDepth 100000 in
theorem c_count_3 (l : Launch) (hl9 : l.stackTraces = false) (dC : Nat → ClassId) (dI : Nat → Nat → Nat) (tE : Nat) (h0 : Nat) (fq : Nat) (sq : Nat) (gq : Nat) (nq : Nat) (dq : Nat) (pq : Nat) (mc_gq : Int32) (sz : Nat) : Met l yX5_count v_c_count_3 ({ frames := 2, cells := 0, slots := 0, locals := 42 }) (va_Pc [.ref h0, .int 3] (Pre0 dC dI tE sz [] [(h0, .inr (10, [.ref fq, .ref sq, .ref gq, .ref nq, .ref dq, .ref pq, .int 0, .int 0, .int 0])), (gq, .inr (4, [.int mc_gq, .ref tE, .int 0]))])) (va_Qi (fun (r : Int32) (_ : Unit) => r = 0) (fun _ t => Pst dC dI [] (va_A [(h0, .inr (10, [.ref fq, .ref sq, .ref gq, .ref nq, .ref dq, .ref pq, .int 0, .int 0, .int 0])), (gq, .inr (4, [.int mc_gq, .ref tE, .int 0]))] sz) [(h0, .inr (10, [.ref fq, .ref sq, .ref gq, .ref nq, .ref dq, .ref pq, .int 0, .int 0, .int 0])), (gq, .inr (4, [.int mc_gq, .ref tE, .int 0]))] t) (va_A [(h0, .inr (10, [.ref fq, .ref sq, .ref gq, .ref nq, .ref dq, .ref pq, .int 0, .int 0, .int 0])), (gq, .inr (4, [.int mc_gq, .ref tE, .int 0]))] sz)) 0 0 (va_A [(h0, .inr (10, [.ref fq, .ref sq, .ref gq, .ref nq, .ref dq, .ref pq, .int 0, .int 0, .int 0])), (gq, .inr (4, [.int mc_gq, .ref tE, .int 0]))] sz) := by
  refine Met.ofW (cc := cX5_count) (maxL := 2) (ret := (some .int)) (by decide) rfl ?_
  intro p e s m args below meth c s₁ B hml hv
  obtain ⟨rfl, hsz, hP, hK, hD0, hT⟩ := hv
  have hx := B.exec
  have hb := B.bytes
  have hr := B.returns
  have hts := atoms_spec (ws := v_c_count_3) B.pre
  have hown : s.vm.findClass RX5 = some m.cls := findClass_of_methodNamed B.named
  have hlocks := B.notSynchronized
  subst hsz
  have hD := hD0.self (sz := s.heap.size)
  generalize hAe : va_A [(h0, .inr (10, [.ref fq, .ref sq, .ref gq, .ref nq, .ref dq, .ref pq, .int 0, .int 0, .int 0])), (gq, .inr (4, [.int mc_gq, .ref tE, .int 0]))] s.heap.size = A at hD hT ⊢
  have hA : ∀ q : Nat, s.heap.size ≤ q → A q := fun q h => by rw [← hAe]; exact Or.inr h
  have hS : va_S A s.heap s.heap [] := va_S.rf
  have hl := lv_entry ([.ref h0, .int 3]) (n := 2) (Nat.le_of_ble_eq_true rfl)
  rw [lg_entry_eq]
  generalize (lg_sl ([.ref h0, .int 3]) ++ List.replicate (2 - (lg_sl ([.ref h0, .int 3])).length) Slot.unset).toArray = ls at hl ⊢
  have hl : lv_has ls 2 [(0, .ref h0), (1, .int 3)] := hl
  refine lv_iload_n hx hb dX5_count_0 rfl (lv_at hl 1 rfl) ?_
  refine lv_tableIn (off := 71) (tgt := 72) hx hb dX5_count_1 (by decide) (by decide) rfl (by decide) ?_
  refine lv_aload_n hx hb dX5_count_72 rfl (lv_at hl 0 rfl) ?_
  have hPc := hP.sub (ws' := [(h0, .inr (10, [.ref fq, .ref sq, .ref gq, .ref nq, .ref dq, .ref pq, .int 0, .int 0, .int 0])), (gq, .inr (4, [.int mc_gq, .ref tE, .int 0]))]) [0, 1] rfl
  have hDc := hD.sub (ws' := [(h0, .inr (10, [.ref fq, .ref sq, .ref gq, .ref nq, .ref dq, .ref pq, .int 0, .int 0, .int 0])), (gq, .inr (4, [.int mc_gq, .ref tE, .int 0]))]) [0, 1] (by decide) rfl
  have hKc := hK.sub (tys' := []) [] rfl
  have hFc := va_free (wc := [(h0, .inr (10, [.ref fq, .ref sq, .ref gq, .ref nq, .ref dq, .ref pq, .int 0, .int 0, .int 0])), (gq, .inr (4, [.int mc_gq, .ref tE, .int 0]))]) hD hS hA [0, 1] rfl
  refine va_calli (va_runV (As := []) (rest := []) ⟨hx, hb, hml, hown, hts⟩ (c_guestsAtHome l hl9 dC dI tE h0 fq sq gq nq dq pq 0 0 0 mc_gq _ ) (cwV 0 hts (goodIn_app (goodIn_r _ [9, 10, 11, 12] (by rfl) (by decide +kernel)) gg_c_count_3_c_guestsAtHome) rfl rfl rfl (by decide +kernel) ⟨Nat.le_of_ble_eq_true rfl, Nat.le_of_ble_eq_true rfl⟩) ⟨Pre0.blind, va_recv hKc hPc (ci := 10) (q0 := 0) rfl rfl, Pre0.give hPc hKc hDc hT hS hFc⟩ rfl rfl hl.1 rfl (lv_room (Nat.le_of_ble_eq_true rfl)) dX5_count_73 ⟨Nat.le_of_ble_eq_true rfl, Nat.le_of_ble_eq_true rfl⟩) hS (fun q _ h => hFc q h) hFc (fun r_1 u t H1 locs ht hvm hw hB hz1 hk1 hS => ?_)
  obtain ⟨hP1, hK1, hD1⟩ := hB
  rw [ht] at hP1
  have hK1 := va_K.moved hvm.symm hK1
  obtain ⟨hP, hD⟩ := va_join (wr := []) (w1 := [(h0, .inr (10, [.ref fq, .ref sq, .ref gq, .ref nq, .ref dq, .ref pq, .int 0, .int 0, .int 0])), (gq, .inr (4, [.int mc_gq, .ref tE, .int 0]))]) hP hD [0, 1] [] rfl rfl (by decide) (by decide) hk1 hFc hP1 hD1
  generalize H1 = H at hP hS ⊢
  have hP : va_P (dC, dI) vwCl [(h0, .inr (10, [.ref fq, .ref sq, .ref gq, .ref nq, .ref dq, .ref pq, .int 0, .int 0, .int 0])), (gq, .inr (4, [.int mc_gq, .ref tE, .int 0]))] H := hP
  have hD : va_D A [(h0, .inr (10, [.ref fq, .ref sq, .ref gq, .ref nq, .ref dq, .ref pq, .int 0, .int 0, .int 0])), (gq, .inr (4, [.int mc_gq, .ref tE, .int 0]))] := hD
  refine W.widen (k := 0) (n := 0) (by omega) (by omega) ?_
  obtain rfl : r_1 = 0 := hw
  have hP9 := hP.sub (ws' := [(h0, .inr (10, [.ref fq, .ref sq, .ref gq, .ref nq, .ref dq, .ref pq, .int 0, .int 0, .int 0])), (gq, .inr (4, [.int mc_gq, .ref tE, .int 0]))]) [0, 1] rfl
  have hD9 := hD.sub (ws' := [(h0, .inr (10, [.ref fq, .ref sq, .ref gq, .ref nq, .ref dq, .ref pq, .int 0, .int 0, .int 0])), (gq, .inr (4, [.int mc_gq, .ref tE, .int 0]))]) [0, 1] (by decide) rfl
  have hK9 := hK.sub (tys' := []) [] rfl
  exact W.iret (v := 0) hx hb hr (fun t ht hW => ⟨⟨0, (), rfl, rfl, by rw [ht]; exact hP9, va_K.moved hW.alike hK9, hD9⟩, hS.F ht⟩) hS.2.2 dX5_count_76
def v_c_count_4 : List Cond := .code yX5_count cX5_count 2 (some .int) :: ([Cond.code yX5_guestsRiding cX5_guestsRiding 1 (some .int), Cond.fieldLink RX5 19 "HotelOfBells" "guests" "Ljava/util/ArrayList;", Cond.code yJx4a65c_size_8abf5 cJx4a65c_size_8abf5 1 (some .int), Cond.fieldLink RJx4a65c 48 "java/util/ArrayList" "size" "I", Cond.methodLink RX5 49 yJx4a65c_size_8abf5, Cond.instanceMethod yJx4a65c_size_8abf5, Cond.selects RJx4a65c yJx4a65c_size_8abf5 yJx4a65c_size_8abf5, Cond.initialized RJx4a65c, Cond.code yX5_guestsIn cX5_guestsIn 4 (some .int), Cond.methodLink RX5 176 yX5_guestsIn, Cond.instanceMethod yX5_guestsIn, Cond.selects RX5 yX5_guestsIn yX5_guestsIn, Cond.initialized RX5, Cond.methodLink RX5 197 yX5_guestsRiding, Cond.instanceMethod yX5_guestsRiding, Cond.selects RX5 yX5_guestsRiding yX5_guestsRiding] ++ (wsX50 ++ (wsJx4a65c0 ++ [])))
theorem u_c_count_4_X5 : ∀ w ∈ wsX50, w ∈ v_c_count_4 := fun _ h => List.mem_cons_of_mem _ (List.mem_append_right _ (List.mem_append_left _ h))
theorem u_c_count_4_Jx4a65c : ∀ w ∈ wsJx4a65c0, w ∈ v_c_count_4 := fun _ h => List.mem_cons_of_mem _ (List.mem_append_right _ (List.mem_append_right _ (List.mem_append_left _ h)))
theorem gg_c_count_4_c_guestsRiding : GoodIn v_c_count_4 v_c_guestsRiding := goodIn_r _ [1, 2, 3, 4, 5, 6, 7, 8, 9, 10, 11, 12, 13, 17, 18, 19, 20, 21, 22, 23, 24, 25, 26, 27, 28] (by rfl) (by decide +kernel)
set_option maxHeartbeats 4000000 in
set_option maxRecDepth 100000 in
theorem c_count_4 (l : Launch) (hl9 : l.stackTraces = false) (dC : Nat → ClassId) (dI : Nat → Nat → Nat) (tE : Nat) (h0 : Nat) (fq : Nat) (sq : Nat) (gq : Nat) (nq : Nat) (dq : Nat) (pq : Nat) (mc_gq : Int32) (sz : Nat) : Met l yX5_count v_c_count_4 ({ frames := 3, cells := 0, slots := 0, locals := 63 }) (va_Pc [.ref h0, .int 4] (Pre0 dC dI tE sz [] [(h0, .inr (10, [.ref fq, .ref sq, .ref gq, .ref nq, .ref dq, .ref pq, .int 0, .int 0, .int 0])), (gq, .inr (4, [.int mc_gq, .ref tE, .int 0]))])) (va_Qi (fun (r : Int32) (_ : Unit) => r = 0) (fun _ t => Pst dC dI [] (va_A [(h0, .inr (10, [.ref fq, .ref sq, .ref gq, .ref nq, .ref dq, .ref pq, .int 0, .int 0, .int 0])), (gq, .inr (4, [.int mc_gq, .ref tE, .int 0]))] sz) [(h0, .inr (10, [.ref fq, .ref sq, .ref gq, .ref nq, .ref dq, .ref pq, .int 0, .int 0, .int 0])), (gq, .inr (4, [.int mc_gq, .ref tE, .int 0]))] t) (va_A [(h0, .inr (10, [.ref fq, .ref sq, .ref gq, .ref nq, .ref dq, .ref pq, .int 0, .int 0, .int 0])), (gq, .inr (4, [.int mc_gq, .ref tE, .int 0]))] sz)) 0 0 (va_A [(h0, .inr (10, [.ref fq, .ref sq, .ref gq, .ref nq, .ref dq, .ref pq, .int 0, .int 0, .int 0])), (gq, .inr (4, [.int mc_gq, .ref tE, .int 0]))] sz) := by
  refine Met.ofW (cc := cX5_count) (maxL := 2) (ret := (some .int)) (by decide) rfl ?_
  intro p e s m args below meth c s₁ B hml hv
  obtain ⟨rfl, hsz, hP, hK, hD0, hT⟩ := hv
  have hx := B.exec
  have hb := B.bytes
  have hr := B.returns
  have hts := atoms_spec (ws := v_c_count_4) B.pre
  have hown : s.vm.findClass RX5 = some m.cls := findClass_of_methodNamed B.named
  have hlocks := B.notSynchronized
  subst hsz
  have hD := hD0.self (sz := s.heap.size)
  generalize hAe : va_A [(h0, .inr (10, [.ref fq, .ref sq, .ref gq, .ref nq, .ref dq, .ref pq, .int 0, .int 0, .int 0])), (gq, .inr (4, [.int mc_gq, .ref tE, .int 0]))] s.heap.size = A at hD hT ⊢
  have hA : ∀ q : Nat, s.heap.size ≤ q → A q := fun q h => by rw [← hAe]; exact Or.inr h
  have hS : va_S A s.heap s.heap [] := va_S.rf
  have hl := lv_entry ([.ref h0, .int 4]) (n := 2) (Nat.le_of_ble_eq_true rfl)
  rw [lg_entry_eq]
  generalize (lg_sl ([.ref h0, .int 4]) ++ List.replicate (2 - (lg_sl ([.ref h0, .int 4])).length) Slot.unset).toArray = ls at hl ⊢
  have hl : lv_has ls 2 [(0, .ref h0), (1, .int 4)] := hl
  refine lv_iload_n hx hb dX5_count_0 rfl (lv_at hl 1 rfl) ?_
  refine lv_tableIn (off := 76) (tgt := 77) hx hb dX5_count_1 (by decide) (by decide) rfl (by decide) ?_
  refine lv_aload_n hx hb dX5_count_77 rfl (lv_at hl 0 rfl) ?_
  have hPc := hP.sub (ws' := [(h0, .inr (10, [.ref fq, .ref sq, .ref gq, .ref nq, .ref dq, .ref pq, .int 0, .int 0, .int 0])), (gq, .inr (4, [.int mc_gq, .ref tE, .int 0]))]) [0, 1] rfl
  have hDc := hD.sub (ws' := [(h0, .inr (10, [.ref fq, .ref sq, .ref gq, .ref nq, .ref dq, .ref pq, .int 0, .int 0, .int 0])), (gq, .inr (4, [.int mc_gq, .ref tE, .int 0]))]) [0, 1] (by decide) rfl
  have hKc := hK.sub (tys' := []) [] rfl
  have hFc := va_free (wc := [(h0, .inr (10, [.ref fq, .ref sq, .ref gq, .ref nq, .ref dq, .ref pq, .int 0, .int 0, .int 0])), (gq, .inr (4, [.int mc_gq, .ref tE, .int 0]))]) hD hS hA [0, 1] rfl
  refine va_calli (va_runV (As := []) (rest := []) ⟨hx, hb, hml, hown, hts⟩ (c_guestsRiding l hl9 dC dI tE h0 fq sq gq nq dq pq 0 0 0 mc_gq _ ) (cwV 0 hts (goodIn_app (goodIn_r _ [14, 15, 16, 13] (by rfl) (by decide +kernel)) gg_c_count_4_c_guestsRiding) rfl rfl rfl (by decide +kernel) ⟨Nat.le_of_ble_eq_true rfl, Nat.le_of_ble_eq_true rfl⟩) ⟨Pre0.blind, va_recv hKc hPc (ci := 10) (q0 := 0) rfl rfl, Pre0.give hPc hKc hDc hT hS hFc⟩ rfl rfl hl.1 rfl (lv_room (Nat.le_of_ble_eq_true rfl)) dX5_count_78 ⟨Nat.le_of_ble_eq_true rfl, Nat.le_of_ble_eq_true rfl⟩) hS (fun q _ h => hFc q h) hFc (fun r_1 u t H1 locs ht hvm hw hB hz1 hk1 hS => ?_)
  obtain ⟨hP1, hK1, hD1⟩ := hB
  rw [ht] at hP1
  have hK1 := va_K.moved hvm.symm hK1
  obtain ⟨hP, hD⟩ := va_join (wr := []) (w1 := [(h0, .inr (10, [.ref fq, .ref sq, .ref gq, .ref nq, .ref dq, .ref pq, .int 0, .int 0, .int 0])), (gq, .inr (4, [.int mc_gq, .ref tE, .int 0]))]) hP hD [0, 1] [] rfl rfl (by decide) (by decide) hk1 hFc hP1 hD1
  generalize H1 = H at hP hS ⊢
  have hP : va_P (dC, dI) vwCl [(h0, .inr (10, [.ref fq, .ref sq, .ref gq, .ref nq, .ref dq, .ref pq, .int 0, .int 0, .int 0])), (gq, .inr (4, [.int mc_gq, .ref tE, .int 0]))] H := hP
  have hD : va_D A [(h0, .inr (10, [.ref fq, .ref sq, .ref gq, .ref nq, .ref dq, .ref pq, .int 0, .int 0, .int 0])), (gq, .inr (4, [.int mc_gq, .ref tE, .int 0]))] := hD
  refine W.widen (k := 0) (n := 0) (by omega) (by omega) ?_
  obtain rfl : r_1 = 0 := hw
  have hP9 := hP.sub (ws' := [(h0, .inr (10, [.ref fq, .ref sq, .ref gq, .ref nq, .ref dq, .ref pq, .int 0, .int 0, .int 0])), (gq, .inr (4, [.int mc_gq, .ref tE, .int 0]))]) [0, 1] rfl
  have hD9 := hD.sub (ws' := [(h0, .inr (10, [.ref fq, .ref sq, .ref gq, .ref nq, .ref dq, .ref pq, .int 0, .int 0, .int 0])), (gq, .inr (4, [.int mc_gq, .ref tE, .int 0]))]) [0, 1] (by decide) rfl
  have hK9 := hK.sub (tys' := []) [] rfl
  exact W.iret (v := 0) hx hb hr (fun t ht hW => ⟨⟨0, (), rfl, rfl, by rw [ht]; exact hP9, va_K.moved hW.alike hK9, hD9⟩, hS.F ht⟩) hS.2.2 dX5_count_81
def v_c_count_5 : List Cond := .code yX5_count cX5_count 2 (some .int) :: ([Cond.fieldLink RX5 200 "HotelOfBells" "bells" "I"] ++ (wsX50 ++ []))
theorem u_c_count_5_X5 : ∀ w ∈ wsX50, w ∈ v_c_count_5 := fun _ h => List.mem_cons_of_mem _ (List.mem_append_right _ (List.mem_append_left _ h))
set_option maxHeartbeats 4000000 in
set_option maxRecDepth 100000 in
theorem c_count_5 (l : Launch) (hl9 : l.stackTraces = false) (dC : Nat → ClassId) (dI : Nat → Nat → Nat) (tE : Nat) (h0 : Nat) (fq : Nat) (sq : Nat) (gq : Nat) (nq : Nat) (dq : Nat) (pq : Nat) (sz : Nat) : Met l yX5_count v_c_count_5 ({ frames := 0, cells := 0, slots := 0, locals := 0 }) (va_Pc [.ref h0, .int 5] (Pre0 dC dI tE sz [] [(h0, .inr (10, [.ref fq, .ref sq, .ref gq, .ref nq, .ref dq, .ref pq, .int 0, .int 0, .int 0]))])) (va_Qi (fun (r : Int32) (_ : Unit) => r = 0) (fun _ t => Pst dC dI [] (va_A [(h0, .inr (10, [.ref fq, .ref sq, .ref gq, .ref nq, .ref dq, .ref pq, .int 0, .int 0, .int 0]))] sz) [(h0, .inr (10, [.ref fq, .ref sq, .ref gq, .ref nq, .ref dq, .ref pq, .int 0, .int 0, .int 0]))] t) (va_A [(h0, .inr (10, [.ref fq, .ref sq, .ref gq, .ref nq, .ref dq, .ref pq, .int 0, .int 0, .int 0]))] sz)) 0 0 (va_A [(h0, .inr (10, [.ref fq, .ref sq, .ref gq, .ref nq, .ref dq, .ref pq, .int 0, .int 0, .int 0]))] sz) := by
  refine Met.ofW (cc := cX5_count) (maxL := 2) (ret := (some .int)) (by decide) rfl ?_
  intro p e s m args below meth c s₁ B hml hv
  obtain ⟨rfl, hsz, hP, hK, hD0, hT⟩ := hv
  have hx := B.exec
  have hb := B.bytes
  have hr := B.returns
  have hts := atoms_spec (ws := v_c_count_5) B.pre
  have hown : s.vm.findClass RX5 = some m.cls := findClass_of_methodNamed B.named
  have hlocks := B.notSynchronized
  subst hsz
  have hD := hD0.self (sz := s.heap.size)
  generalize hAe : va_A [(h0, .inr (10, [.ref fq, .ref sq, .ref gq, .ref nq, .ref dq, .ref pq, .int 0, .int 0, .int 0]))] s.heap.size = A at hD hT ⊢
  have hA : ∀ q : Nat, s.heap.size ≤ q → A q := fun q h => by rw [← hAe]; exact Or.inr h
  have hS : va_S A s.heap s.heap [] := va_S.rf
  have hl := lv_entry ([.ref h0, .int 5]) (n := 2) (Nat.le_of_ble_eq_true rfl)
  rw [lg_entry_eq]
  generalize (lg_sl ([.ref h0, .int 5]) ++ List.replicate (2 - (lg_sl ([.ref h0, .int 5])).length) Slot.unset).toArray = ls at hl ⊢
  have hl : lv_has ls 2 [(0, .ref h0), (1, .int 5)] := hl
  refine lv_iload_n hx hb dX5_count_0 rfl (lv_at hl 1 rfl) ?_
  refine lv_tableIn (off := 81) (tgt := 82) hx hb dX5_count_1 (by decide) (by decide) rfl (by decide) ?_
  refine lv_aload_n hx hb dX5_count_82 rfl (lv_at hl 0 rfl) ?_
  refine va_get (D := (dC, dI)) (ci := 10) (v := .int 0) (C := RX5) (T := TX5) (N := 9) hx hb hts u_c_count_5_X5 hown hK hP 0 rfl rfl 7 (by decide) (hts (.fieldLink RX5 200 "HotelOfBells" "bells" "I") (List.mem_of_getElem? (i := 1) rfl)) (fun _ h9 => h9) rfl dX5_count_83 ?_
  have hP9 := hP.sub (ws' := [(h0, .inr (10, [.ref fq, .ref sq, .ref gq, .ref nq, .ref dq, .ref pq, .int 0, .int 0, .int 0]))]) [0] rfl
  have hD9 := hD.sub (ws' := [(h0, .inr (10, [.ref fq, .ref sq, .ref gq, .ref nq, .ref dq, .ref pq, .int 0, .int 0, .int 0]))]) [0] (by decide) rfl
  have hK9 := hK.sub (tys' := []) [] rfl
  exact W.iret (v := 0) hx hb hr (fun t ht hW => ⟨⟨0, (), rfl, rfl, by rw [ht]; exact hP9, va_K.moved hW.alike hK9, hD9⟩, hS.F ht⟩) hS.2.2 dX5_count_86
def v_c_count_6 : List Cond := .code yX5_count cX5_count 2 (some .int) :: ([Cond.fieldLink RX5 203 "HotelOfBells" "turnsByBells" "I"] ++ (wsX50 ++ []))
theorem u_c_count_6_X5 : ∀ w ∈ wsX50, w ∈ v_c_count_6 := fun _ h => List.mem_cons_of_mem _ (List.mem_append_right _ (List.mem_append_left _ h))
set_option maxHeartbeats 4000000 in
set_option maxRecDepth 100000 in
theorem c_count_6 (l : Launch) (hl9 : l.stackTraces = false) (dC : Nat → ClassId) (dI : Nat → Nat → Nat) (tE : Nat) (h0 : Nat) (fq : Nat) (sq : Nat) (gq : Nat) (nq : Nat) (dq : Nat) (pq : Nat) (sz : Nat) : Met l yX5_count v_c_count_6 ({ frames := 0, cells := 0, slots := 0, locals := 0 }) (va_Pc [.ref h0, .int 6] (Pre0 dC dI tE sz [] [(h0, .inr (10, [.ref fq, .ref sq, .ref gq, .ref nq, .ref dq, .ref pq, .int 0, .int 0, .int 0]))])) (va_Qi (fun (r : Int32) (_ : Unit) => r = 0) (fun _ t => Pst dC dI [] (va_A [(h0, .inr (10, [.ref fq, .ref sq, .ref gq, .ref nq, .ref dq, .ref pq, .int 0, .int 0, .int 0]))] sz) [(h0, .inr (10, [.ref fq, .ref sq, .ref gq, .ref nq, .ref dq, .ref pq, .int 0, .int 0, .int 0]))] t) (va_A [(h0, .inr (10, [.ref fq, .ref sq, .ref gq, .ref nq, .ref dq, .ref pq, .int 0, .int 0, .int 0]))] sz)) 0 0 (va_A [(h0, .inr (10, [.ref fq, .ref sq, .ref gq, .ref nq, .ref dq, .ref pq, .int 0, .int 0, .int 0]))] sz) := by
  refine Met.ofW (cc := cX5_count) (maxL := 2) (ret := (some .int)) (by decide) rfl ?_
  intro p e s m args below meth c s₁ B hml hv
  obtain ⟨rfl, hsz, hP, hK, hD0, hT⟩ := hv
  have hx := B.exec
  have hb := B.bytes
  have hr := B.returns
  have hts := atoms_spec (ws := v_c_count_6) B.pre
  have hown : s.vm.findClass RX5 = some m.cls := findClass_of_methodNamed B.named
  have hlocks := B.notSynchronized
  subst hsz
  have hD := hD0.self (sz := s.heap.size)
  generalize hAe : va_A [(h0, .inr (10, [.ref fq, .ref sq, .ref gq, .ref nq, .ref dq, .ref pq, .int 0, .int 0, .int 0]))] s.heap.size = A at hD hT ⊢
  have hA : ∀ q : Nat, s.heap.size ≤ q → A q := fun q h => by rw [← hAe]; exact Or.inr h
  have hS : va_S A s.heap s.heap [] := va_S.rf
  have hl := lv_entry ([.ref h0, .int 6]) (n := 2) (Nat.le_of_ble_eq_true rfl)
  rw [lg_entry_eq]
  generalize (lg_sl ([.ref h0, .int 6]) ++ List.replicate (2 - (lg_sl ([.ref h0, .int 6])).length) Slot.unset).toArray = ls at hl ⊢
  have hl : lv_has ls 2 [(0, .ref h0), (1, .int 6)] := hl
  refine lv_iload_n hx hb dX5_count_0 rfl (lv_at hl 1 rfl) ?_
  refine lv_tableIn (off := 86) (tgt := 87) hx hb dX5_count_1 (by decide) (by decide) rfl (by decide) ?_
  refine lv_aload_n hx hb dX5_count_87 rfl (lv_at hl 0 rfl) ?_
  refine va_get (D := (dC, dI)) (ci := 10) (v := .int 0) (C := RX5) (T := TX5) (N := 9) hx hb hts u_c_count_6_X5 hown hK hP 0 rfl rfl 8 (by decide) (hts (.fieldLink RX5 203 "HotelOfBells" "turnsByBells" "I") (List.mem_of_getElem? (i := 1) rfl)) (fun _ h9 => h9) rfl dX5_count_88 ?_
  have hP9 := hP.sub (ws' := [(h0, .inr (10, [.ref fq, .ref sq, .ref gq, .ref nq, .ref dq, .ref pq, .int 0, .int 0, .int 0]))]) [0] rfl
  have hD9 := hD.sub (ws' := [(h0, .inr (10, [.ref fq, .ref sq, .ref gq, .ref nq, .ref dq, .ref pq, .int 0, .int 0, .int 0]))]) [0] (by decide) rfl
  have hK9 := hK.sub (tys' := []) [] rfl
  exact W.iret (v := 0) hx hb hr (fun t ht hW => ⟨⟨0, (), rfl, rfl, by rw [ht]; exact hP9, va_K.moved hW.alike hK9, hD9⟩, hS.F ht⟩) hS.2.2 dX5_count_91
def v_c_count_7 : List Cond := .code yX5_count cX5_count 2 (some .int) :: ([Cond.fieldLink RX5 206 "HotelOfBells" "paperLength" "I"] ++ (wsX50 ++ []))
theorem u_c_count_7_X5 : ∀ w ∈ wsX50, w ∈ v_c_count_7 := fun _ h => List.mem_cons_of_mem _ (List.mem_append_right _ (List.mem_append_left _ h))
set_option maxHeartbeats 4000000 in
set_option maxRecDepth 100000 in
theorem c_count_7 (l : Launch) (hl9 : l.stackTraces = false) (dC : Nat → ClassId) (dI : Nat → Nat → Nat) (tE : Nat) (h0 : Nat) (fq : Nat) (sq : Nat) (gq : Nat) (nq : Nat) (dq : Nat) (pq : Nat) (sz : Nat) : Met l yX5_count v_c_count_7 ({ frames := 0, cells := 0, slots := 0, locals := 0 }) (va_Pc [.ref h0, .int 7] (Pre0 dC dI tE sz [] [(h0, .inr (10, [.ref fq, .ref sq, .ref gq, .ref nq, .ref dq, .ref pq, .int 0, .int 0, .int 0]))])) (va_Qi (fun (r : Int32) (_ : Unit) => r = 0) (fun _ t => Pst dC dI [] (va_A [(h0, .inr (10, [.ref fq, .ref sq, .ref gq, .ref nq, .ref dq, .ref pq, .int 0, .int 0, .int 0]))] sz) [(h0, .inr (10, [.ref fq, .ref sq, .ref gq, .ref nq, .ref dq, .ref pq, .int 0, .int 0, .int 0]))] t) (va_A [(h0, .inr (10, [.ref fq, .ref sq, .ref gq, .ref nq, .ref dq, .ref pq, .int 0, .int 0, .int 0]))] sz)) 0 0 (va_A [(h0, .inr (10, [.ref fq, .ref sq, .ref gq, .ref nq, .ref dq, .ref pq, .int 0, .int 0, .int 0]))] sz) := by
  refine Met.ofW (cc := cX5_count) (maxL := 2) (ret := (some .int)) (by decide) rfl ?_
  intro p e s m args below meth c s₁ B hml hv
  obtain ⟨rfl, hsz, hP, hK, hD0, hT⟩ := hv
  have hx := B.exec
  have hb := B.bytes
  have hr := B.returns
  have hts := atoms_spec (ws := v_c_count_7) B.pre
  have hown : s.vm.findClass RX5 = some m.cls := findClass_of_methodNamed B.named
  have hlocks := B.notSynchronized
  subst hsz
  have hD := hD0.self (sz := s.heap.size)
  generalize hAe : va_A [(h0, .inr (10, [.ref fq, .ref sq, .ref gq, .ref nq, .ref dq, .ref pq, .int 0, .int 0, .int 0]))] s.heap.size = A at hD hT ⊢
  have hA : ∀ q : Nat, s.heap.size ≤ q → A q := fun q h => by rw [← hAe]; exact Or.inr h
  have hS : va_S A s.heap s.heap [] := va_S.rf
  have hl := lv_entry ([.ref h0, .int 7]) (n := 2) (Nat.le_of_ble_eq_true rfl)
  rw [lg_entry_eq]
  generalize (lg_sl ([.ref h0, .int 7]) ++ List.replicate (2 - (lg_sl ([.ref h0, .int 7])).length) Slot.unset).toArray = ls at hl ⊢
  have hl : lv_has ls 2 [(0, .ref h0), (1, .int 7)] := hl
  refine lv_iload_n hx hb dX5_count_0 rfl (lv_at hl 1 rfl) ?_
  refine lv_tableIn (off := 91) (tgt := 92) hx hb dX5_count_1 (by decide) (by decide) rfl (by decide) ?_
  refine lv_aload_n hx hb dX5_count_92 rfl (lv_at hl 0 rfl) ?_
  refine va_get (D := (dC, dI)) (ci := 10) (v := .int 0) (C := RX5) (T := TX5) (N := 9) hx hb hts u_c_count_7_X5 hown hK hP 0 rfl rfl 6 (by decide) (hts (.fieldLink RX5 206 "HotelOfBells" "paperLength" "I") (List.mem_of_getElem? (i := 1) rfl)) (fun _ h9 => h9) rfl dX5_count_93 ?_
  have hP9 := hP.sub (ws' := [(h0, .inr (10, [.ref fq, .ref sq, .ref gq, .ref nq, .ref dq, .ref pq, .int 0, .int 0, .int 0]))]) [0] rfl
  have hD9 := hD.sub (ws' := [(h0, .inr (10, [.ref fq, .ref sq, .ref gq, .ref nq, .ref dq, .ref pq, .int 0, .int 0, .int 0]))]) [0] (by decide) rfl
  have hK9 := hK.sub (tys' := []) [] rfl
  exact W.iret (v := 0) hx hb hr (fun t ht hW => ⟨⟨0, (), rfl, rfl, by rw [ht]; exact hP9, va_K.moved hW.alike hK9, hD9⟩, hS.F ht⟩) hS.2.2 dX5_count_96
def vh_c_count_f : List Cond := .code yX5_count cX5_count 2 (some .int) :: ([Cond.classLink RX5 71 "java/lang/IndexOutOfBoundsException", Cond.initialized "java/lang/IndexOutOfBoundsException"] ++ [])
def v_c_count_f : List Cond := vh_c_count_f ++ (thrX)
set_option maxHeartbeats 4000000 in
set_option maxRecDepth 100000 in
theorem c_count_f (l : Launch) (hl9 : l.stackTraces = false) (dC : Nat → ClassId) (dI : Nat → Nat → Nat) (tE : Nat) (h0 : Nat) (fq : Nat) (sq : Nat) (gq : Nat) (nq : Nat) (dq : Nat) (pq : Nat) (pl : Int32) (bl : Int32) (tb : Int32) (p0 : Int32) (sz : Nat) (h : p0 < 0 ∨ 7 < p0) : vx_Met l yX5_count v_c_count_f ({ frames := 6, cells := 1, slots := 6, locals := 90 }) (va_Pc [.ref h0, .int p0] (Pre0 dC dI tE sz [] [(h0, .inr (10, [.ref fq, .ref sq, .ref gq, .ref nq, .ref dq, .ref pq, .int pl, .int bl, .int tb]))])) (va_Qi (fun (r : Int32) (_ : Unit) => False) (fun _ t => Pst dC dI [] (va_A [(h0, .inr (10, [.ref fq, .ref sq, .ref gq, .ref nq, .ref dq, .ref pq, .int pl, .int bl, .int tb]))] sz) [(h0, .inr (10, [.ref fq, .ref sq, .ref gq, .ref nq, .ref dq, .ref pq, .int pl, .int bl, .int tb]))] t) (va_A [(h0, .inr (10, [.ref fq, .ref sq, .ref gq, .ref nq, .ref dq, .ref pq, .int pl, .int bl, .int tb]))] sz)) (vx_X (fun _ : Unit => True) (fun E _ t => E = "java/lang/IndexOutOfBoundsException" ∧ Pst dC dI [] (va_A [(h0, .inr (10, [.ref fq, .ref sq, .ref gq, .ref nq, .ref dq, .ref pq, .int pl, .int bl, .int tb]))] sz) [(h0, .inr (10, [.ref fq, .ref sq, .ref gq, .ref nq, .ref dq, .ref pq, .int pl, .int bl, .int tb]))] t) (va_A [(h0, .inr (10, [.ref fq, .ref sq, .ref gq, .ref nq, .ref dq, .ref pq, .int pl, .int bl, .int tb]))] sz)) 1 6 (va_A [(h0, .inr (10, [.ref fq, .ref sq, .ref gq, .ref nq, .ref dq, .ref pq, .int pl, .int bl, .int tb]))] sz) := by
  refine vx_ofW (cc := cX5_count) (maxL := 2) (ret := (some .int)) (by decide) rfl ?_
  intro p e s m args below meth c s₁ B hml hEx hv
  obtain ⟨rfl, hsz, hP, hK, hD0, hT⟩ := hv
  have hx := B.exec
  have hb := B.bytes
  have hr := B.returns
  have hts := atoms_spec (ws := v_c_count_f) B.pre
  have hown : s.vm.findClass RX5 = some m.cls := findClass_of_methodNamed B.named
  have hlocks := B.notSynchronized
  subst hsz
  have hD := hD0.self (sz := s.heap.size)
  generalize hAe : va_A [(h0, .inr (10, [.ref fq, .ref sq, .ref gq, .ref nq, .ref dq, .ref pq, .int pl, .int bl, .int tb]))] s.heap.size = A at hD hT ⊢
  have hA : ∀ q : Nat, s.heap.size ≤ q → A q := fun q h => by rw [← hAe]; exact Or.inr h
  have hS : va_S A s.heap s.heap [] := va_S.rf
  have hl := lv_entry ([.ref h0, .int p0]) (n := 2) (Nat.le_of_ble_eq_true rfl)
  rw [lg_entry_eq]
  generalize (lg_sl ([.ref h0, .int p0]) ++ List.replicate (2 - (lg_sl ([.ref h0, .int p0])).length) Slot.unset).toArray = ls at hl ⊢
  have hl : lv_has ls 2 [(0, .ref h0), (1, .int p0)] := hl
  refine lv_iload_n hx hb dX5_count_0 rfl (lv_at hl 1 rfl) ?_
  refine lv_tableOut (tgt := 97) hx hb dX5_count_1 (sw7 h) (by decide) ?_
  have hP9 := hP.sub (ws' := [(h0, .inr (10, [.ref fq, .ref sq, .ref gq, .ref nq, .ref dq, .ref pq, .int pl, .int bl, .int tb]))]) [0] rfl
  have hD9 := hD.sub (ws' := [(h0, .inr (10, [.ref fq, .ref sq, .ref gq, .ref nq, .ref dq, .ref pq, .int pl, .int bl, .int tb]))]) [0] (by decide) rfl
  have hK9 := hK.sub (tys' := []) [] rfl
  obtain ⟨sa, hstr⟩ := hT.s209
  exact vx_throwS (own := RX5) (cls := "java/lang/IndexOutOfBoundsException") (names := ["java/lang/RuntimeException", "java/lang/Exception"]) hx hb hl9 hown (by decide +kernel) (by decide +kernel) (hts (.classLink RX5 71 "java/lang/IndexOutOfBoundsException") (List.mem_of_getElem? (i := 1) rfl)) (hts (.initialized "java/lang/IndexOutOfBoundsException") (List.mem_of_getElem? (i := 2) rfl)) hstr (vx_hat (L := vx_atS RX5 75 "java/lang/IndexOutOfBoundsException" ["java/lang/RuntimeException", "java/lang/Exception"]) (B := [.castable "java/lang/IndexOutOfBoundsException" "java/lang/IndexOutOfBoundsException", .declares ⟨"java/lang/RuntimeException", "<init>", "(Ljava/lang/String;)V"⟩, .declares ⟨"java/lang/Exception", "<init>", "(Ljava/lang/String;)V"⟩, .declares ⟨"java/lang/Throwable", "<init>", "(Ljava/lang/String;)V"⟩]) (fun w hw => hts w (List.mem_append_right _ hw)) (by decide +kernel) (vx_c (va_Nw.use rfl hT.eX) (vx_c (va_Nw.use rfl hT.d1) (vx_c (va_Nw.use rfl hT.d2) (vx_c (va_Nw.use rfl hT.d3) (vx_n)))))) (by decide +kernel) hT.zU hT.zS hS (hl.1.trans hml.symm) dX5_count_97 dX5_count_100 dX5_count_101 dX5_count_103 dX5_count_106 (fun x hx => (hEx x hx).elim) (Nat.le_of_ble_eq_true rfl) (Nat.le_of_ble_eq_true rfl) (Nat.le_of_ble_eq_true rfl) (Nat.le_of_ble_eq_true rfl) hlocks (fun t ha hsz hk => ⟨(), trivial, ⟨rfl, hP9.kept (fun k q hq => hk q.1 (hP9 k q hq).lt), va_K.moved ha hK9, hD9⟩, Nat.le_trans hS.1 hsz, fun q h1 h2 => (hk q (Nat.lt_of_lt_of_le h1 hS.1)).trans (hS.2.1 q h1 h2)⟩) hS.2.2 (Nat.le_of_ble_eq_true rfl) (Nat.le_of_ble_eq_true rfl)
def v_c_strike : List Cond := .code yX5_strike cX5_strike 6 (some .int) :: ([Cond.fieldLink RX5 156 "HotelOfBells$Moment" "heard" "I", Cond.code yX5_heardWith cX5_heardWith 2 (some .int), Cond.constant RX5 247 (100000), Cond.methodLink RX5 252 yX5_heardWith, Cond.static yX5_heardWith, Cond.initialized RX5, Cond.fieldLink RX5 10 "HotelOfBells" "floors" "Ljava/util/ArrayList;", Cond.code yJx4a65c_size_8abf5 cJx4a65c_size_8abf5 1 (some .int), Cond.fieldLink RJx4a65c 48 "java/util/ArrayList" "size" "I", Cond.methodLink RX5 49 yJx4a65c_size_8abf5, Cond.instanceMethod yJx4a65c_size_8abf5, Cond.selects RJx4a65c yJx4a65c_size_8abf5 yJx4a65c_size_8abf5, Cond.initialized RJx4a65c, Cond.fieldLink RX5 16 "HotelOfBells" "shafts" "Ljava/util/ArrayList;"] ++ (wsX30 ++ (wsX50 ++ (wsJx4a65c0 ++ []))))
theorem u_c_strike_X3 : ∀ w ∈ wsX30, w ∈ v_c_strike := fun _ h => List.mem_cons_of_mem _ (List.mem_append_right _ (List.mem_append_left _ h))
theorem u_c_strike_X5 : ∀ w ∈ wsX50, w ∈ v_c_strike := fun _ h => List.mem_cons_of_mem _ (List.mem_append_right _ (List.mem_append_right _ (List.mem_append_left _ h)))
theorem u_c_strike_Jx4a65c : ∀ w ∈ wsJx4a65c0, w ∈ v_c_strike := fun _ h => List.mem_cons_of_mem _ (List.mem_append_right _ (List.mem_append_right _ (List.mem_append_right _ (List.mem_append_left _ h))))
theorem gg_c_strike_c_heardWith : GoodIn v_c_strike v_c_heardWith := goodIn_r _ [2, 3] (by rfl) (by decide +kernel)
theorem gg_c_strike_c_AL_size : GoodIn v_c_strike v_c_AL_size := goodIn_r _ [8, 9, 28, 29, 30] (by rfl) (by decide +kernel)
set_option maxHeartbeats 4000000 in
set_option maxRecDepth 100000 in
theorem c_strike (l : Launch) (hl9 : l.stackTraces = false) (dC : Nat → ClassId) (dI : Nat → Nat → Nat) (tE : Nat) (h0 : Nat) (fq : Nat) (sq : Nat) (gq : Nat) (nq : Nat) (dq : Nat) (pq : Nat) (pl : Int32) (bl : Int32) (tb : Int32) (mc_fq : Int32) (mc_sq : Int32) (tq : Nat) (zq : Nat) (wq : Nat) (hd : Int32) (p1 : Int32) (sz : Nat) : Met l yX5_strike v_c_strike ({ frames := 1, cells := 0, slots := 0, locals := 21 }) (va_Pc [.ref h0, .ref nq, .int p1] (Pre0 dC dI tE sz [] [(h0, .inr (10, [.ref fq, .ref sq, .ref gq, .ref nq, .ref dq, .ref pq, .int pl, .int bl, .int tb])), (fq, .inr (4, [.int mc_fq, .ref tE, .int 0])), (sq, .inr (4, [.int mc_sq, .ref tE, .int 0])), (nq, .inr (8, [.int hd, .ref tq, .ref zq, .ref wq]))])) (va_Qi (fun (r : Int32) (_ : Unit) => r = 0) (fun _ t => ∃ (vx0 : Int32), Pst dC dI [] (va_A [(h0, .inr (10, [.ref fq, .ref sq, .ref gq, .ref nq, .ref dq, .ref pq, .int pl, .int bl, .int tb])), (fq, .inr (4, [.int mc_fq, .ref tE, .int 0])), (sq, .inr (4, [.int mc_sq, .ref tE, .int 0])), (nq, .inr (8, [.int hd, .ref tq, .ref zq, .ref wq]))] sz) [(h0, .inr (10, [.ref fq, .ref sq, .ref gq, .ref nq, .ref dq, .ref pq, .int pl, .int bl, .int tb])), (nq, .inr (8, [.int vx0, .ref tq, .ref zq, .ref wq])), (fq, .inr (4, [.int mc_fq, .ref tE, .int 0])), (sq, .inr (4, [.int mc_sq, .ref tE, .int 0]))] t) (va_A [(h0, .inr (10, [.ref fq, .ref sq, .ref gq, .ref nq, .ref dq, .ref pq, .int pl, .int bl, .int tb])), (fq, .inr (4, [.int mc_fq, .ref tE, .int 0])), (sq, .inr (4, [.int mc_sq, .ref tE, .int 0])), (nq, .inr (8, [.int hd, .ref tq, .ref zq, .ref wq]))] sz)) 0 0 (va_A [(h0, .inr (10, [.ref fq, .ref sq, .ref gq, .ref nq, .ref dq, .ref pq, .int pl, .int bl, .int tb])), (fq, .inr (4, [.int mc_fq, .ref tE, .int 0])), (sq, .inr (4, [.int mc_sq, .ref tE, .int 0])), (nq, .inr (8, [.int hd, .ref tq, .ref zq, .ref wq]))] sz) := by
  refine Met.ofW (cc := cX5_strike) (maxL := 6) (ret := (some .int)) (by decide) rfl ?_
  intro p e s m args below meth c s₁ B hml hv
  obtain ⟨rfl, hsz, hP, hK, hD0, hT⟩ := hv
  have hx := B.exec
  have hb := B.bytes
  have hr := B.returns
  have hts := atoms_spec (ws := v_c_strike) B.pre
  have hown : s.vm.findClass RX5 = some m.cls := findClass_of_methodNamed B.named
  have hlocks := B.notSynchronized
  subst hsz
  have hD := hD0.self (sz := s.heap.size)
  generalize hAe : va_A [(h0, .inr (10, [.ref fq, .ref sq, .ref gq, .ref nq, .ref dq, .ref pq, .int pl, .int bl, .int tb])), (fq, .inr (4, [.int mc_fq, .ref tE, .int 0])), (sq, .inr (4, [.int mc_sq, .ref tE, .int 0])), (nq, .inr (8, [.int hd, .ref tq, .ref zq, .ref wq]))] s.heap.size = A at hD hT ⊢
  have hA : ∀ q : Nat, s.heap.size ≤ q → A q := fun q h => by rw [← hAe]; exact Or.inr h
  have hS : va_S A s.heap s.heap [] := va_S.rf
  have hl := lv_entry ([.ref h0, .ref nq, .int p1]) (n := 6) (Nat.le_of_ble_eq_true rfl)
  rw [lg_entry_eq]
  generalize (lg_sl ([.ref h0, .ref nq, .int p1]) ++ List.replicate (6 - (lg_sl ([.ref h0, .ref nq, .int p1])).length) Slot.unset).toArray = ls at hl ⊢
  have hl : lv_has ls 6 [(0, .ref h0), (1, .ref nq), (2, .int p1)] := hl
  refine lv_aload_n hx hb dX5_strike_0 rfl (lv_at hl 1 rfl) ?_
  refine lv_aload_n hx hb dX5_strike_1 rfl (lv_at hl 1 rfl) ?_
  refine va_get (D := (dC, dI)) (ci := 8) (v := .int hd) (C := RX3) (T := TX3) (N := 4) hx hb hts u_c_strike_X3 hown hK hP 3 rfl rfl 0 (by decide) (hts (.fieldLink RX5 156 "HotelOfBells$Moment" "heard" "I") (List.mem_of_getElem? (i := 1) rfl)) (fun _ h9 => h9) rfl dX5_strike_2 ?_
  refine lv_iload_n hx hb dX5_strike_5 rfl (lv_at hl 2 rfl) ?_
  have hPc := hP.sub (ws' := []) [] rfl
  have hDc := hD.sub (ws' := []) [] (by decide) rfl
  have hKc := hK.sub (tys' := []) [] rfl
  have hFc := va_free (wc := []) hD hS hA [] rfl
  refine va_calli (va_runS (As := [.int hd, .int p1]) (rest := [.ref nq]) ⟨hx, hb, hml, hown, hts⟩ (c_heardWith l hl9 dC dI tE hd p1 _ ) (va_cwS 2 hts (goodIn_app (goodIn_r _ [4, 5, 6] (by rfl) (by decide +kernel)) gg_c_strike_c_heardWith) rfl rfl rfl (by decide +kernel) ⟨Nat.le_of_ble_eq_true rfl, Nat.le_of_ble_eq_true rfl⟩) ⟨Pre0.blind, Pre0.give hPc hKc hDc hT hS hFc⟩ rfl rfl hl.1 rfl (lv_room (Nat.le_of_ble_eq_true rfl)) dX5_strike_6 ⟨Nat.le_of_ble_eq_true rfl, Nat.le_of_ble_eq_true rfl⟩) hS (fun q _ h => hFc q h) hFc (fun r_1 u t H1 locs ht hvm hw hB hz1 hk1 hS => ?_)
  obtain ⟨hP1, hK1, hD1⟩ := hB
  rw [ht] at hP1
  have hK1 := va_K.moved hvm.symm hK1
  obtain ⟨hP, hD⟩ := va_join (wr := [(h0, .inr (10, [.ref fq, .ref sq, .ref gq, .ref nq, .ref dq, .ref pq, .int pl, .int bl, .int tb])), (fq, .inr (4, [.int mc_fq, .ref tE, .int 0])), (sq, .inr (4, [.int mc_sq, .ref tE, .int 0])), (nq, .inr (8, [.int hd, .ref tq, .ref zq, .ref wq]))]) (w1 := []) hP hD [] [0, 1, 2, 3] rfl rfl (by decide) (by decide) hk1 hFc hP1 hD1
  generalize H1 = H at hP hS ⊢
  have hP : va_P (dC, dI) vwCl [(h0, .inr (10, [.ref fq, .ref sq, .ref gq, .ref nq, .ref dq, .ref pq, .int pl, .int bl, .int tb])), (fq, .inr (4, [.int mc_fq, .ref tE, .int 0])), (sq, .inr (4, [.int mc_sq, .ref tE, .int 0])), (nq, .inr (8, [.int hd, .ref tq, .ref zq, .ref wq]))] H := hP
  have hD : va_D A [(h0, .inr (10, [.ref fq, .ref sq, .ref gq, .ref nq, .ref dq, .ref pq, .int pl, .int bl, .int tb])), (fq, .inr (4, [.int mc_fq, .ref tE, .int 0])), (sq, .inr (4, [.int mc_sq, .ref tE, .int 0])), (nq, .inr (8, [.int hd, .ref tq, .ref zq, .ref wq]))] := hD
  refine W.widen (k := 0) (n := 0) (by omega) (by omega) ?_
  refine va_put (D := (dC, dI)) (ci := 8) (v := .int r_1) (ty := .int) (C := RX3) (T := TX3) (N := 4) hx hb hts u_c_strike_X3 tyX3 tyX3_ok nmX3 hown hK hP hD hS 3 rfl rfl 0 (by decide) (hts (.fieldLink RX5 156 "HotelOfBells$Moment" "heard" "I") (List.mem_of_getElem? (i := 1) rfl)) (fun _ h9 => h9) rfl (by decide +kernel) rfl rfl (Nat.le_of_ble_eq_true rfl) dX5_strike_9 (fun H locs hP hD hS => ?_)
  have hP : va_P (dC, dI) vwCl [(h0, .inr (10, [.ref fq, .ref sq, .ref gq, .ref nq, .ref dq, .ref pq, .int pl, .int bl, .int tb])), (fq, .inr (4, [.int mc_fq, .ref tE, .int 0])), (sq, .inr (4, [.int mc_sq, .ref tE, .int 0])), (nq, .inr (8, [.int r_1, .ref tq, .ref zq, .ref wq]))] H := hP
  have hD : va_D A [(h0, .inr (10, [.ref fq, .ref sq, .ref gq, .ref nq, .ref dq, .ref pq, .int pl, .int bl, .int tb])), (fq, .inr (4, [.int mc_fq, .ref tE, .int 0])), (sq, .inr (4, [.int mc_sq, .ref tE, .int 0])), (nq, .inr (8, [.int r_1, .ref tq, .ref zq, .ref wq]))] := hD
  refine lv_iconst (v := 0) hx hb dX5_strike_12 (by decide) ?_
  refine lv_istore_n (lv' := [(3, .int 0), (0, .ref h0), (1, .ref nq), (2, .int p1)]) hx hb dX5_strike_13 rfl hl (by decide) rfl (fun ls hl => ?_)
  refine lv_iconst (v := 0) hx hb dX5_strike_14 (by decide) ?_
  refine lv_istore (lv' := [(4, .int 0), (3, .int 0), (0, .ref h0), (1, .ref nq), (2, .int p1)]) hx hb dX5_strike_15 hl (by decide) rfl (fun ls hl => ?_)
  refine lv_iload hx hb dX5_strike_17 (lv_at hl 0 rfl) ?_
  refine lv_aload_n hx hb dX5_strike_19 rfl (lv_at hl 2 rfl) ?_
  refine va_get (D := (dC, dI)) (ci := 10) (v := .ref fq) (C := RX5) (T := TX5) (N := 9) hx hb hts u_c_strike_X5 hown hK hP 0 rfl rfl 0 (by decide) (hts (.fieldLink RX5 10 "HotelOfBells" "floors" "Ljava/util/ArrayList;") (List.mem_of_getElem? (i := 7) rfl)) (fun _ h9 => h9) rfl dX5_strike_20 ?_
  have hPc := hP.sub (ws' := [(fq, .inr (4, [.int mc_fq, .ref tE, .int 0]))]) [1] rfl
  have hDc := hD.sub (ws' := [(fq, .inr (4, [.int mc_fq, .ref tE, .int 0]))]) [1] (by decide) rfl
  have hKc := hK.sub (tys' := []) [] rfl
  have hFc := va_free (wc := [(fq, .inr (4, [.int mc_fq, .ref tE, .int 0]))]) hD hS hA [1] rfl
  refine va_calli (va_runV (As := []) (rest := [.int 0]) ⟨hx, hb, hml, hown, hts⟩ (c_AL_size l hl9 dC dI tE fq mc_fq 0 (.ref tE) _ ) (cwV 0 hts (goodIn_app (goodIn_r _ [10, 11, 12, 13] (by rfl) (by decide +kernel)) gg_c_strike_c_AL_size) rfl rfl rfl (by decide +kernel) ⟨Nat.le_of_ble_eq_true rfl, Nat.le_of_ble_eq_true rfl⟩) ⟨Pre0.blind, va_recv hKc hPc (ci := 4) (q0 := 0) rfl rfl, Pre0.give hPc hKc hDc hT hS hFc⟩ rfl rfl hl.1 rfl (lv_room (Nat.le_of_ble_eq_true rfl)) dX5_strike_23 ⟨Nat.le_of_ble_eq_true rfl, Nat.le_of_ble_eq_true rfl⟩) hS (fun q _ h => hFc q h) hFc (fun r_2 u t H1 locs ht hvm hw hB hz1 hk1 hS => ?_)
  obtain ⟨hP1, hK1, hD1⟩ := hB
  rw [ht] at hP1
  have hK1 := va_K.moved hvm.symm hK1
  obtain ⟨hP, hD⟩ := va_join (wr := [(h0, .inr (10, [.ref fq, .ref sq, .ref gq, .ref nq, .ref dq, .ref pq, .int pl, .int bl, .int tb])), (sq, .inr (4, [.int mc_sq, .ref tE, .int 0])), (nq, .inr (8, [.int r_1, .ref tq, .ref zq, .ref wq]))]) (w1 := [(fq, .inr (4, [.int mc_fq, .ref tE, .int 0]))]) hP hD [1] [0, 2, 3] rfl rfl (by decide) (by decide) hk1 hFc hP1 hD1
  generalize H1 = H at hP hS ⊢
  have hP : va_P (dC, dI) vwCl [(h0, .inr (10, [.ref fq, .ref sq, .ref gq, .ref nq, .ref dq, .ref pq, .int pl, .int bl, .int tb])), (sq, .inr (4, [.int mc_sq, .ref tE, .int 0])), (nq, .inr (8, [.int r_1, .ref tq, .ref zq, .ref wq])), (fq, .inr (4, [.int mc_fq, .ref tE, .int 0]))] H := hP
  have hD : va_D A [(h0, .inr (10, [.ref fq, .ref sq, .ref gq, .ref nq, .ref dq, .ref pq, .int pl, .int bl, .int tb])), (sq, .inr (4, [.int mc_sq, .ref tE, .int 0])), (nq, .inr (8, [.int r_1, .ref tq, .ref zq, .ref wq])), (fq, .inr (4, [.int mc_fq, .ref tE, .int 0]))] := hD
  refine W.widen (k := 0) (n := 0) (by omega) (by omega) ?_
  obtain rfl : r_2 = 0 := hw
  refine lv_icmp_ge (tgt := 81) hx hb dX5_strike_26 (by decide) (fun _ => ?_) (fun c_3 => absurd (by decide) c_3)
  refine lv_iconst (v := 0) hx hb dX5_strike_81 (by decide) ?_
  refine lv_istore (lv' := [(4, .int 0), (3, .int 0), (0, .ref h0), (1, .ref nq), (2, .int p1)]) hx hb dX5_strike_82 hl (by decide) rfl (fun ls hl => ?_)
  refine lv_iload hx hb dX5_strike_84 (lv_at hl 0 rfl) ?_
  refine lv_aload_n hx hb dX5_strike_86 rfl (lv_at hl 2 rfl) ?_
  refine va_get (D := (dC, dI)) (ci := 10) (v := .ref sq) (C := RX5) (T := TX5) (N := 9) hx hb hts u_c_strike_X5 hown hK hP 0 rfl rfl 1 (by decide) (hts (.fieldLink RX5 16 "HotelOfBells" "shafts" "Ljava/util/ArrayList;") (List.mem_of_getElem? (i := 14) rfl)) (fun _ h9 => h9) rfl dX5_strike_87 ?_
  have hPc := hP.sub (ws' := [(sq, .inr (4, [.int mc_sq, .ref tE, .int 0]))]) [1] rfl
  have hDc := hD.sub (ws' := [(sq, .inr (4, [.int mc_sq, .ref tE, .int 0]))]) [1] (by decide) rfl
  have hKc := hK.sub (tys' := []) [] rfl
  have hFc := va_free (wc := [(sq, .inr (4, [.int mc_sq, .ref tE, .int 0]))]) hD hS hA [1] rfl
  refine va_calli (va_runV (As := []) (rest := [.int 0]) ⟨hx, hb, hml, hown, hts⟩ (c_AL_size l hl9 dC dI tE sq mc_sq 0 (.ref tE) _ ) (cwV 0 hts (goodIn_app (goodIn_r _ [10, 11, 12, 13] (by rfl) (by decide +kernel)) gg_c_strike_c_AL_size) rfl rfl rfl (by decide +kernel) ⟨Nat.le_of_ble_eq_true rfl, Nat.le_of_ble_eq_true rfl⟩) ⟨Pre0.blind, va_recv hKc hPc (ci := 4) (q0 := 0) rfl rfl, Pre0.give hPc hKc hDc hT hS hFc⟩ rfl rfl hl.1 rfl (lv_room (Nat.le_of_ble_eq_true rfl)) dX5_strike_90 ⟨Nat.le_of_ble_eq_true rfl, Nat.le_of_ble_eq_true rfl⟩) hS (fun q _ h => hFc q h) hFc (fun r_4 u t H1 locs ht hvm hw hB hz1 hk1 hS => ?_)
  obtain ⟨hP1, hK1, hD1⟩ := hB
  rw [ht] at hP1
  have hK1 := va_K.moved hvm.symm hK1
  obtain ⟨hP, hD⟩ := va_join (wr := [(h0, .inr (10, [.ref fq, .ref sq, .ref gq, .ref nq, .ref dq, .ref pq, .int pl, .int bl, .int tb])), (nq, .inr (8, [.int r_1, .ref tq, .ref zq, .ref wq])), (fq, .inr (4, [.int mc_fq, .ref tE, .int 0]))]) (w1 := [(sq, .inr (4, [.int mc_sq, .ref tE, .int 0]))]) hP hD [1] [0, 2, 3] rfl rfl (by decide) (by decide) hk1 hFc hP1 hD1
  generalize H1 = H at hP hS ⊢
  have hP : va_P (dC, dI) vwCl [(h0, .inr (10, [.ref fq, .ref sq, .ref gq, .ref nq, .ref dq, .ref pq, .int pl, .int bl, .int tb])), (nq, .inr (8, [.int r_1, .ref tq, .ref zq, .ref wq])), (fq, .inr (4, [.int mc_fq, .ref tE, .int 0])), (sq, .inr (4, [.int mc_sq, .ref tE, .int 0]))] H := hP
  have hD : va_D A [(h0, .inr (10, [.ref fq, .ref sq, .ref gq, .ref nq, .ref dq, .ref pq, .int pl, .int bl, .int tb])), (nq, .inr (8, [.int r_1, .ref tq, .ref zq, .ref wq])), (fq, .inr (4, [.int mc_fq, .ref tE, .int 0])), (sq, .inr (4, [.int mc_sq, .ref tE, .int 0]))] := hD
  refine W.widen (k := 0) (n := 0) (by omega) (by omega) ?_
  obtain rfl : r_4 = 0 := hw
  refine lv_icmp_ge (tgt := 115) hx hb dX5_strike_93 (by decide) (fun _ => ?_) (fun c_5 => absurd (by decide) c_5)
  refine lv_iload_n hx hb dX5_strike_115 rfl (lv_at hl 1 rfl) ?_
  have hP9 := hP.sub (ws' := [(h0, .inr (10, [.ref fq, .ref sq, .ref gq, .ref nq, .ref dq, .ref pq, .int pl, .int bl, .int tb])), (nq, .inr (8, [.int r_1, .ref tq, .ref zq, .ref wq])), (fq, .inr (4, [.int mc_fq, .ref tE, .int 0])), (sq, .inr (4, [.int mc_sq, .ref tE, .int 0]))]) [0, 1, 2, 3] rfl
  have hD9 := hD.sub (ws' := [(h0, .inr (10, [.ref fq, .ref sq, .ref gq, .ref nq, .ref dq, .ref pq, .int pl, .int bl, .int tb])), (nq, .inr (8, [.int r_1, .ref tq, .ref zq, .ref wq])), (fq, .inr (4, [.int mc_fq, .ref tE, .int 0])), (sq, .inr (4, [.int mc_sq, .ref tE, .int 0]))]) [0, 1, 2, 3] (by decide) rfl
  have hK9 := hK.sub (tys' := []) [] rfl
  exact W.iret (v := 0) hx hb hr (fun t ht hW => ⟨⟨0, (), rfl, rfl, r_1, by rw [ht]; exact hP9, va_K.moved hW.alike hK9, hD9⟩, hS.F ht⟩) hS.2.2 dX5_strike_116
def v_c_toll : List Cond := .code yX5_toll cX5_toll 4 (some .int) :: ([Cond.fieldLink RX5 19 "HotelOfBells" "guests" "Ljava/util/ArrayList;", Cond.code yJx4a65c_size_8abf5 cJx4a65c_size_8abf5 1 (some .int), Cond.fieldLink RJx4a65c 48 "java/util/ArrayList" "size" "I", Cond.methodLink RX5 49 yJx4a65c_size_8abf5, Cond.instanceMethod yJx4a65c_size_8abf5, Cond.selects RJx4a65c yJx4a65c_size_8abf5 yJx4a65c_size_8abf5, Cond.initialized RJx4a65c, Cond.fieldLink RX5 200 "HotelOfBells" "bells" "I", Cond.fieldLink RX5 203 "HotelOfBells" "turnsByBells" "I", Cond.fieldLink RX5 25 "HotelOfBells" "now" "LHotelOfBells$Moment;", Cond.code yX5_strike cX5_strike 6 (some .int), Cond.fieldLink RX5 156 "HotelOfBells$Moment" "heard" "I", Cond.code yX5_heardWith cX5_heardWith 2 (some .int), Cond.constant RX5 247 (100000), Cond.methodLink RX5 252 yX5_heardWith, Cond.static yX5_heardWith, Cond.initialized RX5, Cond.fieldLink RX5 10 "HotelOfBells" "floors" "Ljava/util/ArrayList;", Cond.fieldLink RX5 16 "HotelOfBells" "shafts" "Ljava/util/ArrayList;", Cond.methodLink RX5 237 yX5_strike, Cond.instanceMethod yX5_strike, Cond.selects RX5 yX5_strike yX5_strike] ++ (wsX50 ++ (wsJx4a65c0 ++ (wsX30 ++ []))))
theorem u_c_toll_X5 : ∀ w ∈ wsX50, w ∈ v_c_toll := fun _ h => List.mem_cons_of_mem _ (List.mem_append_right _ (List.mem_append_left _ h))
theorem u_c_toll_Jx4a65c : ∀ w ∈ wsJx4a65c0, w ∈ v_c_toll := fun _ h => List.mem_cons_of_mem _ (List.mem_append_right _ (List.mem_append_right _ (List.mem_append_left _ h)))
theorem u_c_toll_X3 : ∀ w ∈ wsX30, w ∈ v_c_toll := fun _ h => List.mem_cons_of_mem _ (List.mem_append_right _ (List.mem_append_right _ (List.mem_append_right _ (List.mem_append_left _ h))))
theorem gg_c_toll_c_AL_size : GoodIn v_c_toll v_c_AL_size := goodIn_r _ [2, 3, 32, 33, 34] (by rfl) (by decide +kernel)
theorem gg_c_toll_c_strike : GoodIn v_c_toll v_c_strike := goodIn_r _ [11, 12, 13, 14, 15, 16, 17, 18, 2, 3, 4, 5, 6, 7, 19, 35, 36, 37, 38, 23, 24, 25, 26, 27, 28, 29, 30, 31, 32, 33, 34] (by rfl) (by decide +kernel)
set_option maxHeartbeats 4000000 in
set_option maxRecDepth 100000 in
theorem c_toll (l : Launch) (hl9 : l.stackTraces = false) (dC : Nat → ClassId) (dI : Nat → Nat → Nat) (tE : Nat) (h0 : Nat) (fq : Nat) (sq : Nat) (gq : Nat) (nq : Nat) (dq : Nat) (pq : Nat) (pl : Int32) (bl : Int32) (tb : Int32) (mc_fq : Int32) (mc_sq : Int32) (mc_gq : Int32) (tq : Nat) (zq : Nat) (wq : Nat) (hd : Int32) (p0 : Int32) (sz : Nat) : Met l yX5_toll v_c_toll ({ frames := 2, cells := 0, slots := 0, locals := 46 }) (va_Pc [.ref h0, .int p0] (Pre0 dC dI tE sz [] [(h0, .inr (10, [.ref fq, .ref sq, .ref gq, .ref nq, .ref dq, .ref pq, .int pl, .int bl, .int tb])), (fq, .inr (4, [.int mc_fq, .ref tE, .int 0])), (sq, .inr (4, [.int mc_sq, .ref tE, .int 0])), (gq, .inr (4, [.int mc_gq, .ref tE, .int 0])), (nq, .inr (8, [.int hd, .ref tq, .ref zq, .ref wq]))])) (va_Qi (fun (r : Int32) (_ : Unit) => r = 0) (fun _ t => ∃ (vx0 : Int32), ∃ (vx1 : Int32), ∃ (vx2 : Int32), Pst dC dI [] (va_A [(h0, .inr (10, [.ref fq, .ref sq, .ref gq, .ref nq, .ref dq, .ref pq, .int pl, .int bl, .int tb])), (fq, .inr (4, [.int mc_fq, .ref tE, .int 0])), (sq, .inr (4, [.int mc_sq, .ref tE, .int 0])), (gq, .inr (4, [.int mc_gq, .ref tE, .int 0])), (nq, .inr (8, [.int hd, .ref tq, .ref zq, .ref wq]))] sz) [(h0, .inr (10, [.ref fq, .ref sq, .ref gq, .ref nq, .ref dq, .ref pq, .int pl, .int vx0, .int vx1])), (nq, .inr (8, [.int vx2, .ref tq, .ref zq, .ref wq])), (fq, .inr (4, [.int mc_fq, .ref tE, .int 0])), (sq, .inr (4, [.int mc_sq, .ref tE, .int 0])), (gq, .inr (4, [.int mc_gq, .ref tE, .int 0]))] t) (va_A [(h0, .inr (10, [.ref fq, .ref sq, .ref gq, .ref nq, .ref dq, .ref pq, .int pl, .int bl, .int tb])), (fq, .inr (4, [.int mc_fq, .ref tE, .int 0])), (sq, .inr (4, [.int mc_sq, .ref tE, .int 0])), (gq, .inr (4, [.int mc_gq, .ref tE, .int 0])), (nq, .inr (8, [.int hd, .ref tq, .ref zq, .ref wq]))] sz)) 0 0 (va_A [(h0, .inr (10, [.ref fq, .ref sq, .ref gq, .ref nq, .ref dq, .ref pq, .int pl, .int bl, .int tb])), (fq, .inr (4, [.int mc_fq, .ref tE, .int 0])), (sq, .inr (4, [.int mc_sq, .ref tE, .int 0])), (gq, .inr (4, [.int mc_gq, .ref tE, .int 0])), (nq, .inr (8, [.int hd, .ref tq, .ref zq, .ref wq]))] sz) := by
  refine Met.ofW (cc := cX5_toll) (maxL := 4) (ret := (some .int)) (by decide) rfl ?_
  intro p e s m args below meth c s₁ B hml hv
  obtain ⟨rfl, hsz, hP, hK, hD0, hT⟩ := hv
  have hx := B.exec
  have hb := B.bytes
  have hr := B.returns
  have hts := atoms_spec (ws := v_c_toll) B.pre
  have hown : s.vm.findClass RX5 = some m.cls := findClass_of_methodNamed B.named
  have hlocks := B.notSynchronized
  subst hsz
  have hD := hD0.self (sz := s.heap.size)
  generalize hAe : va_A [(h0, .inr (10, [.ref fq, .ref sq, .ref gq, .ref nq, .ref dq, .ref pq, .int pl, .int bl, .int tb])), (fq, .inr (4, [.int mc_fq, .ref tE, .int 0])), (sq, .inr (4, [.int mc_sq, .ref tE, .int 0])), (gq, .inr (4, [.int mc_gq, .ref tE, .int 0])), (nq, .inr (8, [.int hd, .ref tq, .ref zq, .ref wq]))] s.heap.size = A at hD hT ⊢
  have hA : ∀ q : Nat, s.heap.size ≤ q → A q := fun q h => by rw [← hAe]; exact Or.inr h
  have hS : va_S A s.heap s.heap [] := va_S.rf
  have hl := lv_entry ([.ref h0, .int p0]) (n := 4) (Nat.le_of_ble_eq_true rfl)
  rw [lg_entry_eq]
  generalize (lg_sl ([.ref h0, .int p0]) ++ List.replicate (4 - (lg_sl ([.ref h0, .int p0])).length) Slot.unset).toArray = ls at hl ⊢
  have hl : lv_has ls 4 [(0, .ref h0), (1, .int p0)] := hl
  refine lv_iconst (v := 0) hx hb dX5_toll_0 (by decide) ?_
  refine lv_istore_n (lv' := [(2, .int 0), (0, .ref h0), (1, .int p0)]) hx hb dX5_toll_1 rfl hl (by decide) rfl (fun ls hl => ?_)
  refine lv_iload_n hx hb dX5_toll_2 rfl (lv_at hl 0 rfl) ?_
  refine lv_aload_n hx hb dX5_toll_3 rfl (lv_at hl 1 rfl) ?_
  refine va_get (D := (dC, dI)) (ci := 10) (v := .ref gq) (C := RX5) (T := TX5) (N := 9) hx hb hts u_c_toll_X5 hown hK hP 0 rfl rfl 2 (by decide) (hts (.fieldLink RX5 19 "HotelOfBells" "guests" "Ljava/util/ArrayList;") (List.mem_of_getElem? (i := 1) rfl)) (fun _ h9 => h9) rfl dX5_toll_4 ?_
  have hPc := hP.sub (ws' := [(gq, .inr (4, [.int mc_gq, .ref tE, .int 0]))]) [3] rfl
  have hDc := hD.sub (ws' := [(gq, .inr (4, [.int mc_gq, .ref tE, .int 0]))]) [3] (by decide) rfl
  have hKc := hK.sub (tys' := []) [] rfl
  have hFc := va_free (wc := [(gq, .inr (4, [.int mc_gq, .ref tE, .int 0]))]) hD hS hA [3] rfl
  refine va_calli (va_runV (As := []) (rest := [.int 0]) ⟨hx, hb, hml, hown, hts⟩ (c_AL_size l hl9 dC dI tE gq mc_gq 0 (.ref tE) _ ) (cwV 0 hts (goodIn_app (goodIn_r _ [4, 5, 6, 7] (by rfl) (by decide +kernel)) gg_c_toll_c_AL_size) rfl rfl rfl (by decide +kernel) ⟨Nat.le_of_ble_eq_true rfl, Nat.le_of_ble_eq_true rfl⟩) ⟨Pre0.blind, va_recv hKc hPc (ci := 4) (q0 := 0) rfl rfl, Pre0.give hPc hKc hDc hT hS hFc⟩ rfl rfl hl.1 rfl (lv_room (Nat.le_of_ble_eq_true rfl)) dX5_toll_7 ⟨Nat.le_of_ble_eq_true rfl, Nat.le_of_ble_eq_true rfl⟩) hS (fun q _ h => hFc q h) hFc (fun r_1 u t H1 locs ht hvm hw hB hz1 hk1 hS => ?_)
  obtain ⟨hP1, hK1, hD1⟩ := hB
  rw [ht] at hP1
  have hK1 := va_K.moved hvm.symm hK1
  obtain ⟨hP, hD⟩ := va_join (wr := [(h0, .inr (10, [.ref fq, .ref sq, .ref gq, .ref nq, .ref dq, .ref pq, .int pl, .int bl, .int tb])), (fq, .inr (4, [.int mc_fq, .ref tE, .int 0])), (sq, .inr (4, [.int mc_sq, .ref tE, .int 0])), (nq, .inr (8, [.int hd, .ref tq, .ref zq, .ref wq]))]) (w1 := [(gq, .inr (4, [.int mc_gq, .ref tE, .int 0]))]) hP hD [3] [0, 1, 2, 4] rfl rfl (by decide) (by decide) hk1 hFc hP1 hD1
  generalize H1 = H at hP hS ⊢
  have hP : va_P (dC, dI) vwCl [(h0, .inr (10, [.ref fq, .ref sq, .ref gq, .ref nq, .ref dq, .ref pq, .int pl, .int bl, .int tb])), (fq, .inr (4, [.int mc_fq, .ref tE, .int 0])), (sq, .inr (4, [.int mc_sq, .ref tE, .int 0])), (nq, .inr (8, [.int hd, .ref tq, .ref zq, .ref wq])), (gq, .inr (4, [.int mc_gq, .ref tE, .int 0]))] H := hP
  have hD : va_D A [(h0, .inr (10, [.ref fq, .ref sq, .ref gq, .ref nq, .ref dq, .ref pq, .int pl, .int bl, .int tb])), (fq, .inr (4, [.int mc_fq, .ref tE, .int 0])), (sq, .inr (4, [.int mc_sq, .ref tE, .int 0])), (nq, .inr (8, [.int hd, .ref tq, .ref zq, .ref wq])), (gq, .inr (4, [.int mc_gq, .ref tE, .int 0]))] := hD
  refine W.widen (k := 0) (n := 0) (by omega) (by omega) ?_
  obtain rfl : r_1 = 0 := hw
  refine lv_icmp_ge (tgt := 48) hx hb dX5_toll_10 (by decide) (fun _ => ?_) (fun c_2 => absurd (by decide) c_2)
  refine lv_aload_n hx hb dX5_toll_48 rfl (lv_at hl 1 rfl) ?_
  refine lv_dup hx hb dX5_toll_49 rfl ?_
  refine va_get (D := (dC, dI)) (ci := 10) (v := .int bl) (C := RX5) (T := TX5) (N := 9) hx hb hts u_c_toll_X5 hown hK hP 0 rfl rfl 7 (by decide) (hts (.fieldLink RX5 200 "HotelOfBells" "bells" "I") (List.mem_of_getElem? (i := 8) rfl)) (fun _ h9 => h9) rfl dX5_toll_50 ?_
  refine lv_iconst (v := 1) hx hb dX5_toll_53 (by decide) ?_
  refine lv_iadd hx hb dX5_toll_54 ?_
  refine lv_topi (fun x_3 e_4 => ?_)
  refine va_put (D := (dC, dI)) (ci := 10) (v := .int x_3) (ty := .int) (C := RX5) (T := TX5) (N := 9) hx hb hts u_c_toll_X5 tyX5 tyX5_ok nmX5 hown hK hP hD hS 0 rfl rfl 7 (by decide) (hts (.fieldLink RX5 200 "HotelOfBells" "bells" "I") (List.mem_of_getElem? (i := 8) rfl)) (fun _ h9 => h9) rfl (by decide +kernel) rfl rfl (Nat.le_of_ble_eq_true rfl) dX5_toll_55 (fun H locs hP hD hS => ?_)
  have hP : va_P (dC, dI) vwCl [(h0, .inr (10, [.ref fq, .ref sq, .ref gq, .ref nq, .ref dq, .ref pq, .int pl, .int x_3, .int tb])), (fq, .inr (4, [.int mc_fq, .ref tE, .int 0])), (sq, .inr (4, [.int mc_sq, .ref tE, .int 0])), (nq, .inr (8, [.int hd, .ref tq, .ref zq, .ref wq])), (gq, .inr (4, [.int mc_gq, .ref tE, .int 0]))] H := hP
  have hD : va_D A [(h0, .inr (10, [.ref fq, .ref sq, .ref gq, .ref nq, .ref dq, .ref pq, .int pl, .int x_3, .int tb])), (fq, .inr (4, [.int mc_fq, .ref tE, .int 0])), (sq, .inr (4, [.int mc_sq, .ref tE, .int 0])), (nq, .inr (8, [.int hd, .ref tq, .ref zq, .ref wq])), (gq, .inr (4, [.int mc_gq, .ref tE, .int 0]))] := hD
  refine lv_aload_n hx hb dX5_toll_58 rfl (lv_at hl 1 rfl) ?_
  refine lv_dup hx hb dX5_toll_59 rfl ?_
  refine va_get (D := (dC, dI)) (ci := 10) (v := .int tb) (C := RX5) (T := TX5) (N := 9) hx hb hts u_c_toll_X5 hown hK hP 0 rfl rfl 8 (by decide) (hts (.fieldLink RX5 203 "HotelOfBells" "turnsByBells" "I") (List.mem_of_getElem? (i := 9) rfl)) (fun _ h9 => h9) rfl dX5_toll_60 ?_
  refine lv_aload_n hx hb dX5_toll_63 rfl (lv_at hl 1 rfl) ?_
  refine lv_aload_n hx hb dX5_toll_64 rfl (lv_at hl 1 rfl) ?_
  refine va_get (D := (dC, dI)) (ci := 10) (v := .ref nq) (C := RX5) (T := TX5) (N := 9) hx hb hts u_c_toll_X5 hown hK hP 0 rfl rfl 3 (by decide) (hts (.fieldLink RX5 25 "HotelOfBells" "now" "LHotelOfBells$Moment;") (List.mem_of_getElem? (i := 10) rfl)) (fun _ h9 => h9) rfl dX5_toll_65 ?_
  refine lv_iload_n hx hb dX5_toll_68 rfl (lv_at hl 2 rfl) ?_
  have hPc := hP.sub (ws' := [(h0, .inr (10, [.ref fq, .ref sq, .ref gq, .ref nq, .ref dq, .ref pq, .int pl, .int x_3, .int tb])), (fq, .inr (4, [.int mc_fq, .ref tE, .int 0])), (sq, .inr (4, [.int mc_sq, .ref tE, .int 0])), (nq, .inr (8, [.int hd, .ref tq, .ref zq, .ref wq]))]) [0, 1, 2, 3] rfl
  have hDc := hD.sub (ws' := [(h0, .inr (10, [.ref fq, .ref sq, .ref gq, .ref nq, .ref dq, .ref pq, .int pl, .int x_3, .int tb])), (fq, .inr (4, [.int mc_fq, .ref tE, .int 0])), (sq, .inr (4, [.int mc_sq, .ref tE, .int 0])), (nq, .inr (8, [.int hd, .ref tq, .ref zq, .ref wq]))]) [0, 1, 2, 3] (by decide) rfl
  have hKc := hK.sub (tys' := []) [] rfl
  have hFc := va_free (wc := [(h0, .inr (10, [.ref fq, .ref sq, .ref gq, .ref nq, .ref dq, .ref pq, .int pl, .int x_3, .int tb])), (fq, .inr (4, [.int mc_fq, .ref tE, .int 0])), (sq, .inr (4, [.int mc_sq, .ref tE, .int 0])), (nq, .inr (8, [.int hd, .ref tq, .ref zq, .ref wq]))]) hD hS hA [0, 1, 2, 3] rfl
  refine va_calli (va_runV (As := [.ref nq, .int p0]) (rest := [.int tb, .ref h0]) ⟨hx, hb, hml, hown, hts⟩ (c_strike l hl9 dC dI tE h0 fq sq gq nq dq pq pl x_3 tb mc_fq mc_sq tq zq wq hd p0 _ ) (cwV 2 hts (goodIn_app (goodIn_r _ [20, 21, 22, 17] (by rfl) (by decide +kernel)) gg_c_toll_c_strike) rfl rfl rfl (by decide +kernel) ⟨Nat.le_of_ble_eq_true rfl, Nat.le_of_ble_eq_true rfl⟩) ⟨Pre0.blind, va_recv hKc hPc (ci := 10) (q0 := 0) rfl rfl, Pre0.give hPc hKc hDc hT hS hFc⟩ rfl rfl hl.1 rfl (lv_room (Nat.le_of_ble_eq_true rfl)) dX5_toll_69 ⟨Nat.le_of_ble_eq_true rfl, Nat.le_of_ble_eq_true rfl⟩) hS (fun q _ h => hFc q h) hFc (fun r_5 u t H1 locs ht hvm hw hB hz1 hk1 hS => ?_)
  obtain ⟨vx_6, hP1, hK1, hD1⟩ := hB
  rw [ht] at hP1
  have hK1 := va_K.moved hvm.symm hK1
  obtain ⟨hP, hD⟩ := va_join (wr := [(gq, .inr (4, [.int mc_gq, .ref tE, .int 0]))]) (w1 := [(h0, .inr (10, [.ref fq, .ref sq, .ref gq, .ref nq, .ref dq, .ref pq, .int pl, .int x_3, .int tb])), (nq, .inr (8, [.int vx_6, .ref tq, .ref zq, .ref wq])), (fq, .inr (4, [.int mc_fq, .ref tE, .int 0])), (sq, .inr (4, [.int mc_sq, .ref tE, .int 0]))]) hP hD [0, 1, 2, 3] [4] rfl rfl (by decide) (by decide) hk1 hFc hP1 hD1
  generalize H1 = H at hP hS ⊢
  have hP : va_P (dC, dI) vwCl [(gq, .inr (4, [.int mc_gq, .ref tE, .int 0])), (h0, .inr (10, [.ref fq, .ref sq, .ref gq, .ref nq, .ref dq, .ref pq, .int pl, .int x_3, .int tb])), (nq, .inr (8, [.int vx_6, .ref tq, .ref zq, .ref wq])), (fq, .inr (4, [.int mc_fq, .ref tE, .int 0])), (sq, .inr (4, [.int mc_sq, .ref tE, .int 0]))] H := hP
  have hD : va_D A [(gq, .inr (4, [.int mc_gq, .ref tE, .int 0])), (h0, .inr (10, [.ref fq, .ref sq, .ref gq, .ref nq, .ref dq, .ref pq, .int pl, .int x_3, .int tb])), (nq, .inr (8, [.int vx_6, .ref tq, .ref zq, .ref wq])), (fq, .inr (4, [.int mc_fq, .ref tE, .int 0])), (sq, .inr (4, [.int mc_sq, .ref tE, .int 0]))] := hD
  refine W.widen (k := 0) (n := 0) (by omega) (by omega) ?_
  obtain rfl : r_5 = 0 := hw
  refine lv_iadd hx hb dX5_toll_72 ?_
  refine lv_topi (fun x_7 e_8 => ?_)
  refine va_put (D := (dC, dI)) (ci := 10) (v := .int x_7) (ty := .int) (C := RX5) (T := TX5) (N := 9) hx hb hts u_c_toll_X5 tyX5 tyX5_ok nmX5 hown hK hP hD hS 1 rfl rfl 8 (by decide) (hts (.fieldLink RX5 203 "HotelOfBells" "turnsByBells" "I") (List.mem_of_getElem? (i := 9) rfl)) (fun _ h9 => h9) rfl (by decide +kernel) rfl rfl (Nat.le_of_ble_eq_true rfl) dX5_toll_73 (fun H locs hP hD hS => ?_)
  have hP : va_P (dC, dI) vwCl [(gq, .inr (4, [.int mc_gq, .ref tE, .int 0])), (h0, .inr (10, [.ref fq, .ref sq, .ref gq, .ref nq, .ref dq, .ref pq, .int pl, .int x_3, .int x_7])), (nq, .inr (8, [.int vx_6, .ref tq, .ref zq, .ref wq])), (fq, .inr (4, [.int mc_fq, .ref tE, .int 0])), (sq, .inr (4, [.int mc_sq, .ref tE, .int 0]))] H := hP
  have hD : va_D A [(gq, .inr (4, [.int mc_gq, .ref tE, .int 0])), (h0, .inr (10, [.ref fq, .ref sq, .ref gq, .ref nq, .ref dq, .ref pq, .int pl, .int x_3, .int x_7])), (nq, .inr (8, [.int vx_6, .ref tq, .ref zq, .ref wq])), (fq, .inr (4, [.int mc_fq, .ref tE, .int 0])), (sq, .inr (4, [.int mc_sq, .ref tE, .int 0]))] := hD
  refine lv_iconst (v := 0) hx hb dX5_toll_76 (by decide) ?_
  refine lv_istore_n (lv' := [(2, .int 0), (0, .ref h0), (1, .int p0)]) hx hb dX5_toll_77 rfl hl (by decide) rfl (fun ls hl => ?_)
  refine lv_iconst (v := 0) hx hb dX5_toll_78 (by decide) ?_
  refine lv_istore_n (lv' := [(3, .int 0), (2, .int 0), (0, .ref h0), (1, .int p0)]) hx hb dX5_toll_79 rfl hl (by decide) rfl (fun ls hl => ?_)
  refine lv_iload_n hx hb dX5_toll_80 rfl (lv_at hl 0 rfl) ?_
  refine lv_aload_n hx hb dX5_toll_81 rfl (lv_at hl 2 rfl) ?_
  refine va_get (D := (dC, dI)) (ci := 10) (v := .ref gq) (C := RX5) (T := TX5) (N := 9) hx hb hts u_c_toll_X5 hown hK hP 1 rfl rfl 2 (by decide) (hts (.fieldLink RX5 19 "HotelOfBells" "guests" "Ljava/util/ArrayList;") (List.mem_of_getElem? (i := 1) rfl)) (fun _ h9 => h9) rfl dX5_toll_82 ?_
  have hPc := hP.sub (ws' := [(gq, .inr (4, [.int mc_gq, .ref tE, .int 0]))]) [0] rfl
  have hDc := hD.sub (ws' := [(gq, .inr (4, [.int mc_gq, .ref tE, .int 0]))]) [0] (by decide) rfl
  have hKc := hK.sub (tys' := []) [] rfl
  have hFc := va_free (wc := [(gq, .inr (4, [.int mc_gq, .ref tE, .int 0]))]) hD hS hA [0] rfl
  refine va_calli (va_runV (As := []) (rest := [.int 0]) ⟨hx, hb, hml, hown, hts⟩ (c_AL_size l hl9 dC dI tE gq mc_gq 0 (.ref tE) _ ) (cwV 0 hts (goodIn_app (goodIn_r _ [4, 5, 6, 7] (by rfl) (by decide +kernel)) gg_c_toll_c_AL_size) rfl rfl rfl (by decide +kernel) ⟨Nat.le_of_ble_eq_true rfl, Nat.le_of_ble_eq_true rfl⟩) ⟨Pre0.blind, va_recv hKc hPc (ci := 4) (q0 := 0) rfl rfl, Pre0.give hPc hKc hDc hT hS hFc⟩ rfl rfl hl.1 rfl (lv_room (Nat.le_of_ble_eq_true rfl)) dX5_toll_85 ⟨Nat.le_of_ble_eq_true rfl, Nat.le_of_ble_eq_true rfl⟩) hS (fun q _ h => hFc q h) hFc (fun r_9 u t H1 locs ht hvm hw hB hz1 hk1 hS => ?_)
  obtain ⟨hP1, hK1, hD1⟩ := hB
  rw [ht] at hP1
  have hK1 := va_K.moved hvm.symm hK1
  obtain ⟨hP, hD⟩ := va_join (wr := [(h0, .inr (10, [.ref fq, .ref sq, .ref gq, .ref nq, .ref dq, .ref pq, .int pl, .int x_3, .int x_7])), (nq, .inr (8, [.int vx_6, .ref tq, .ref zq, .ref wq])), (fq, .inr (4, [.int mc_fq, .ref tE, .int 0])), (sq, .inr (4, [.int mc_sq, .ref tE, .int 0]))]) (w1 := [(gq, .inr (4, [.int mc_gq, .ref tE, .int 0]))]) hP hD [0] [1, 2, 3, 4] rfl rfl (by decide) (by decide) hk1 hFc hP1 hD1
  generalize H1 = H at hP hS ⊢
  have hP : va_P (dC, dI) vwCl [(h0, .inr (10, [.ref fq, .ref sq, .ref gq, .ref nq, .ref dq, .ref pq, .int pl, .int x_3, .int x_7])), (nq, .inr (8, [.int vx_6, .ref tq, .ref zq, .ref wq])), (fq, .inr (4, [.int mc_fq, .ref tE, .int 0])), (sq, .inr (4, [.int mc_sq, .ref tE, .int 0])), (gq, .inr (4, [.int mc_gq, .ref tE, .int 0]))] H := hP
  have hD : va_D A [(h0, .inr (10, [.ref fq, .ref sq, .ref gq, .ref nq, .ref dq, .ref pq, .int pl, .int x_3, .int x_7])), (nq, .inr (8, [.int vx_6, .ref tq, .ref zq, .ref wq])), (fq, .inr (4, [.int mc_fq, .ref tE, .int 0])), (sq, .inr (4, [.int mc_sq, .ref tE, .int 0])), (gq, .inr (4, [.int mc_gq, .ref tE, .int 0]))] := hD
  refine W.widen (k := 0) (n := 0) (by omega) (by omega) ?_
  obtain rfl : r_9 = 0 := hw
  refine lv_icmp_ge (tgt := 122) hx hb dX5_toll_88 (by decide) (fun _ => ?_) (fun c_10 => absurd (by decide) c_10)
  refine lv_iload_n hx hb dX5_toll_122 rfl (lv_at hl 1 rfl) ?_
  have hP9 := hP.sub (ws' := [(h0, .inr (10, [.ref fq, .ref sq, .ref gq, .ref nq, .ref dq, .ref pq, .int pl, .int x_3, .int x_7])), (nq, .inr (8, [.int vx_6, .ref tq, .ref zq, .ref wq])), (fq, .inr (4, [.int mc_fq, .ref tE, .int 0])), (sq, .inr (4, [.int mc_sq, .ref tE, .int 0])), (gq, .inr (4, [.int mc_gq, .ref tE, .int 0]))]) [0, 1, 2, 3, 4] rfl
  have hD9 := hD.sub (ws' := [(h0, .inr (10, [.ref fq, .ref sq, .ref gq, .ref nq, .ref dq, .ref pq, .int pl, .int x_3, .int x_7])), (nq, .inr (8, [.int vx_6, .ref tq, .ref zq, .ref wq])), (fq, .inr (4, [.int mc_fq, .ref tE, .int 0])), (sq, .inr (4, [.int mc_sq, .ref tE, .int 0])), (gq, .inr (4, [.int mc_gq, .ref tE, .int 0]))]) [0, 1, 2, 3, 4] (by decide) rfl
  have hK9 := hK.sub (tys' := []) [] rfl
  exact W.iret (v := 0) hx hb hr (fun t ht hW => ⟨⟨0, (), rfl, rfl, x_3, x_7, vx_6, by rw [ht]; exact hP9, va_K.moved hW.alike hK9, hD9⟩, hS.F ht⟩) hS.2.2 dX5_toll_123
def v_c_ring_t : List Cond := .code yX5_ring cX5_ring 2 (some .int) :: ([Cond.code yX5_isTone cX5_isTone 1 (some .boolean), Cond.methodLink RX5 211 yX5_isTone, Cond.static yX5_isTone, Cond.initialized RX5, Cond.code yX5_toll cX5_toll 4 (some .int), Cond.fieldLink RX5 19 "HotelOfBells" "guests" "Ljava/util/ArrayList;", Cond.code yJx4a65c_size_8abf5 cJx4a65c_size_8abf5 1 (some .int), Cond.fieldLink RJx4a65c 48 "java/util/ArrayList" "size" "I", Cond.methodLink RX5 49 yJx4a65c_size_8abf5, Cond.instanceMethod yJx4a65c_size_8abf5, Cond.selects RJx4a65c yJx4a65c_size_8abf5 yJx4a65c_size_8abf5, Cond.initialized RJx4a65c, Cond.fieldLink RX5 200 "HotelOfBells" "bells" "I", Cond.fieldLink RX5 203 "HotelOfBells" "turnsByBells" "I", Cond.fieldLink RX5 25 "HotelOfBells" "now" "LHotelOfBells$Moment;", Cond.code yX5_strike cX5_strike 6 (some .int), Cond.fieldLink RX5 156 "HotelOfBells$Moment" "heard" "I", Cond.code yX5_heardWith cX5_heardWith 2 (some .int), Cond.constant RX5 247 (100000), Cond.methodLink RX5 252 yX5_heardWith, Cond.static yX5_heardWith, Cond.fieldLink RX5 10 "HotelOfBells" "floors" "Ljava/util/ArrayList;", Cond.fieldLink RX5 16 "HotelOfBells" "shafts" "Ljava/util/ArrayList;", Cond.methodLink RX5 237 yX5_strike, Cond.instanceMethod yX5_strike, Cond.selects RX5 yX5_strike yX5_strike, Cond.methodLink RX5 216 yX5_toll, Cond.instanceMethod yX5_toll, Cond.selects RX5 yX5_toll yX5_toll] ++ (wsX50 ++ (wsJx4a65c0 ++ (wsX30 ++ []))))
theorem u_c_ring_t_X5 : ∀ w ∈ wsX50, w ∈ v_c_ring_t := fun _ h => List.mem_cons_of_mem _ (List.mem_append_right _ (List.mem_append_left _ h))
theorem u_c_ring_t_Jx4a65c : ∀ w ∈ wsJx4a65c0, w ∈ v_c_ring_t := fun _ h => List.mem_cons_of_mem _ (List.mem_append_right _ (List.mem_append_right _ (List.mem_append_left _ h)))
theorem u_c_ring_t_X3 : ∀ w ∈ wsX30, w ∈ v_c_ring_t := fun _ h => List.mem_cons_of_mem _ (List.mem_append_right _ (List.mem_append_right _ (List.mem_append_right _ (List.mem_append_left _ h))))
theorem gg_c_ring_t_c_isTone_t : GoodIn v_c_ring_t v_c_isTone_t := goodIn_r _ [1] (by rfl) (by decide +kernel)
theorem gg_c_ring_t_c_toll : GoodIn v_c_ring_t v_c_toll := goodIn_r _ [5, 6, 7, 8, 9, 10, 11, 12, 13, 14, 15, 16, 17, 18, 19, 20, 21, 4, 22, 23, 24, 25, 26, 30, 31, 32, 33, 34, 35, 36, 37, 38, 39, 40, 41, 42, 43, 44, 45] (by rfl) (by decide +kernel)
set_option maxHeartbeats 4000000 in
set_option maxRecDepth 100000 in
theorem c_ring_t (l : Launch) (hl9 : l.stackTraces = false) (dC : Nat → ClassId) (dI : Nat → Nat → Nat) (tE : Nat) (h0 : Nat) (fq : Nat) (sq : Nat) (gq : Nat) (nq : Nat) (dq : Nat) (pq : Nat) (pl : Int32) (bl : Int32) (tb : Int32) (mc_fq : Int32) (mc_sq : Int32) (mc_gq : Int32) (tq : Nat) (zq : Nat) (wq : Nat) (hd : Int32) (p0 : Int32) (sz : Nat) (h1 : ¬ p0 < 0) (h2 : ¬ 3 < p0) : Met l yX5_ring v_c_ring_t ({ frames := 3, cells := 0, slots := 0, locals := 69 }) (va_Pc [.ref h0, .int p0] (Pre0 dC dI tE sz [] [(h0, .inr (10, [.ref fq, .ref sq, .ref gq, .ref nq, .ref dq, .ref pq, .int pl, .int bl, .int tb])), (fq, .inr (4, [.int mc_fq, .ref tE, .int 0])), (sq, .inr (4, [.int mc_sq, .ref tE, .int 0])), (gq, .inr (4, [.int mc_gq, .ref tE, .int 0])), (nq, .inr (8, [.int hd, .ref tq, .ref zq, .ref wq]))])) (va_Qi (fun (r : Int32) (_ : Unit) => r = 0) (fun _ t => ∃ (vx0 : Int32), ∃ (vx1 : Int32), ∃ (vx2 : Int32), Pst dC dI [] (va_A [(h0, .inr (10, [.ref fq, .ref sq, .ref gq, .ref nq, .ref dq, .ref pq, .int pl, .int bl, .int tb])), (fq, .inr (4, [.int mc_fq, .ref tE, .int 0])), (sq, .inr (4, [.int mc_sq, .ref tE, .int 0])), (gq, .inr (4, [.int mc_gq, .ref tE, .int 0])), (nq, .inr (8, [.int hd, .ref tq, .ref zq, .ref wq]))] sz) [(h0, .inr (10, [.ref fq, .ref sq, .ref gq, .ref nq, .ref dq, .ref pq, .int pl, .int vx0, .int vx1])), (nq, .inr (8, [.int vx2, .ref tq, .ref zq, .ref wq])), (fq, .inr (4, [.int mc_fq, .ref tE, .int 0])), (sq, .inr (4, [.int mc_sq, .ref tE, .int 0])), (gq, .inr (4, [.int mc_gq, .ref tE, .int 0]))] t) (va_A [(h0, .inr (10, [.ref fq, .ref sq, .ref gq, .ref nq, .ref dq, .ref pq, .int pl, .int bl, .int tb])), (fq, .inr (4, [.int mc_fq, .ref tE, .int 0])), (sq, .inr (4, [.int mc_sq, .ref tE, .int 0])), (gq, .inr (4, [.int mc_gq, .ref tE, .int 0])), (nq, .inr (8, [.int hd, .ref tq, .ref zq, .ref wq]))] sz)) 0 0 (va_A [(h0, .inr (10, [.ref fq, .ref sq, .ref gq, .ref nq, .ref dq, .ref pq, .int pl, .int bl, .int tb])), (fq, .inr (4, [.int mc_fq, .ref tE, .int 0])), (sq, .inr (4, [.int mc_sq, .ref tE, .int 0])), (gq, .inr (4, [.int mc_gq, .ref tE, .int 0])), (nq, .inr (8, [.int hd, .ref tq, .ref zq, .ref wq]))] sz) := by
  refine Met.ofW (cc := cX5_ring) (maxL := 2) (ret := (some .int)) (by decide) rfl ?_
  intro p e s m args below meth c s₁ B hml hv
  obtain ⟨rfl, hsz, hP, hK, hD0, hT⟩ := hv
  have hx := B.exec
  have hb := B.bytes
  have hr := B.returns
  have hts := atoms_spec (ws := v_c_ring_t) B.pre
  have hown : s.vm.findClass RX5 = some m.cls := findClass_of_methodNamed B.named
  have hlocks := B.notSynchronized
  subst hsz
  have hD := hD0.self (sz := s.heap.size)
  generalize hAe : va_A [(h0, .inr (10, [.ref fq, .ref sq, .ref gq, .ref nq, .ref dq, .ref pq, .int pl, .int bl, .int tb])), (fq, .inr (4, [.int mc_fq, .ref tE, .int 0])), (sq, .inr (4, [.int mc_sq, .ref tE, .int 0])), (gq, .inr (4, [.int mc_gq, .ref tE, .int 0])), (nq, .inr (8, [.int hd, .ref tq, .ref zq, .ref wq]))] s.heap.size = A at hD hT ⊢
  have hA : ∀ q : Nat, s.heap.size ≤ q → A q := fun q h => by rw [← hAe]; exact Or.inr h
  have hS : va_S A s.heap s.heap [] := va_S.rf
  have hl := lv_entry ([.ref h0, .int p0]) (n := 2) (Nat.le_of_ble_eq_true rfl)
  rw [lg_entry_eq]
  generalize (lg_sl ([.ref h0, .int p0]) ++ List.replicate (2 - (lg_sl ([.ref h0, .int p0])).length) Slot.unset).toArray = ls at hl ⊢
  have hl : lv_has ls 2 [(0, .ref h0), (1, .int p0)] := hl
  refine lv_iload_n hx hb dX5_ring_0 rfl (lv_at hl 1 rfl) ?_
  have hPc := hP.sub (ws' := []) [] rfl
  have hDc := hD.sub (ws' := []) [] (by decide) rfl
  have hKc := hK.sub (tys' := []) [] rfl
  have hFc := va_free (wc := []) hD hS hA [] rfl
  refine va_calli (va_runS (As := [.int p0]) (rest := []) ⟨hx, hb, hml, hown, hts⟩ (c_isTone_t l hl9 dC dI tE p0 _ (by first | assumption | decide | omega) (by first | assumption | decide | omega)) (va_cwS 1 hts (goodIn_app (goodIn_r _ [2, 3, 4] (by rfl) (by decide +kernel)) gg_c_ring_t_c_isTone_t) rfl rfl rfl (by decide +kernel) ⟨Nat.le_of_ble_eq_true rfl, Nat.le_of_ble_eq_true rfl⟩) ⟨Pre0.blind, Pre0.give hPc hKc hDc hT hS hFc⟩ rfl rfl hl.1 rfl (lv_room (Nat.le_of_ble_eq_true rfl)) dX5_ring_1 ⟨Nat.le_of_ble_eq_true rfl, Nat.le_of_ble_eq_true rfl⟩) hS (fun q _ h => hFc q h) hFc (fun r_1 u t H1 locs ht hvm hw hB hz1 hk1 hS => ?_)
  obtain ⟨hP1, hK1, hD1⟩ := hB
  rw [ht] at hP1
  have hK1 := va_K.moved hvm.symm hK1
  obtain ⟨hP, hD⟩ := va_join (wr := [(h0, .inr (10, [.ref fq, .ref sq, .ref gq, .ref nq, .ref dq, .ref pq, .int pl, .int bl, .int tb])), (fq, .inr (4, [.int mc_fq, .ref tE, .int 0])), (sq, .inr (4, [.int mc_sq, .ref tE, .int 0])), (gq, .inr (4, [.int mc_gq, .ref tE, .int 0])), (nq, .inr (8, [.int hd, .ref tq, .ref zq, .ref wq]))]) (w1 := []) hP hD [] [0, 1, 2, 3, 4] rfl rfl (by decide) (by decide) hk1 hFc hP1 hD1
  generalize H1 = H at hP hS ⊢
  have hP : va_P (dC, dI) vwCl [(h0, .inr (10, [.ref fq, .ref sq, .ref gq, .ref nq, .ref dq, .ref pq, .int pl, .int bl, .int tb])), (fq, .inr (4, [.int mc_fq, .ref tE, .int 0])), (sq, .inr (4, [.int mc_sq, .ref tE, .int 0])), (gq, .inr (4, [.int mc_gq, .ref tE, .int 0])), (nq, .inr (8, [.int hd, .ref tq, .ref zq, .ref wq]))] H := hP
  have hD : va_D A [(h0, .inr (10, [.ref fq, .ref sq, .ref gq, .ref nq, .ref dq, .ref pq, .int pl, .int bl, .int tb])), (fq, .inr (4, [.int mc_fq, .ref tE, .int 0])), (sq, .inr (4, [.int mc_sq, .ref tE, .int 0])), (gq, .inr (4, [.int mc_gq, .ref tE, .int 0])), (nq, .inr (8, [.int hd, .ref tq, .ref zq, .ref wq]))] := hD
  refine W.widen (k := 0) (n := 0) (by omega) (by omega) ?_
  obtain rfl : r_1 = 1 := hw
  refine lv_if_ne (tgt := 17) hx hb dX5_ring_4 (by decide) (fun _ => ?_) (fun c_2 => absurd c_2 (by decide))
  refine lv_aload_n hx hb dX5_ring_17 rfl (lv_at hl 0 rfl) ?_
  refine lv_iload_n hx hb dX5_ring_18 rfl (lv_at hl 1 rfl) ?_
  have hPc := hP.sub (ws' := [(h0, .inr (10, [.ref fq, .ref sq, .ref gq, .ref nq, .ref dq, .ref pq, .int pl, .int bl, .int tb])), (fq, .inr (4, [.int mc_fq, .ref tE, .int 0])), (sq, .inr (4, [.int mc_sq, .ref tE, .int 0])), (gq, .inr (4, [.int mc_gq, .ref tE, .int 0])), (nq, .inr (8, [.int hd, .ref tq, .ref zq, .ref wq]))]) [0, 1, 2, 3, 4] rfl
  have hDc := hD.sub (ws' := [(h0, .inr (10, [.ref fq, .ref sq, .ref gq, .ref nq, .ref dq, .ref pq, .int pl, .int bl, .int tb])), (fq, .inr (4, [.int mc_fq, .ref tE, .int 0])), (sq, .inr (4, [.int mc_sq, .ref tE, .int 0])), (gq, .inr (4, [.int mc_gq, .ref tE, .int 0])), (nq, .inr (8, [.int hd, .ref tq, .ref zq, .ref wq]))]) [0, 1, 2, 3, 4] (by decide) rfl
  have hKc := hK.sub (tys' := []) [] rfl
  have hFc := va_free (wc := [(h0, .inr (10, [.ref fq, .ref sq, .ref gq, .ref nq, .ref dq, .ref pq, .int pl, .int bl, .int tb])), (fq, .inr (4, [.int mc_fq, .ref tE, .int 0])), (sq, .inr (4, [.int mc_sq, .ref tE, .int 0])), (gq, .inr (4, [.int mc_gq, .ref tE, .int 0])), (nq, .inr (8, [.int hd, .ref tq, .ref zq, .ref wq]))]) hD hS hA [0, 1, 2, 3, 4] rfl
  refine va_calli (va_runV (As := [.int p0]) (rest := []) ⟨hx, hb, hml, hown, hts⟩ (c_toll l hl9 dC dI tE h0 fq sq gq nq dq pq pl bl tb mc_fq mc_sq mc_gq tq zq wq hd p0 _ ) (cwV 1 hts (goodIn_app (goodIn_r _ [27, 28, 29, 4] (by rfl) (by decide +kernel)) gg_c_ring_t_c_toll) rfl rfl rfl (by decide +kernel) ⟨Nat.le_of_ble_eq_true rfl, Nat.le_of_ble_eq_true rfl⟩) ⟨Pre0.blind, va_recv hKc hPc (ci := 10) (q0 := 0) rfl rfl, Pre0.give hPc hKc hDc hT hS hFc⟩ rfl rfl hl.1 rfl (lv_room (Nat.le_of_ble_eq_true rfl)) dX5_ring_19 ⟨Nat.le_of_ble_eq_true rfl, Nat.le_of_ble_eq_true rfl⟩) hS (fun q _ h => hFc q h) hFc (fun r_3 u t H1 locs ht hvm hw hB hz1 hk1 hS => ?_)
  obtain ⟨vx_4, vx_5, vx_6, hP1, hK1, hD1⟩ := hB
  rw [ht] at hP1
  have hK1 := va_K.moved hvm.symm hK1
  obtain ⟨hP, hD⟩ := va_join (wr := []) (w1 := [(h0, .inr (10, [.ref fq, .ref sq, .ref gq, .ref nq, .ref dq, .ref pq, .int pl, .int vx_4, .int vx_5])), (nq, .inr (8, [.int vx_6, .ref tq, .ref zq, .ref wq])), (fq, .inr (4, [.int mc_fq, .ref tE, .int 0])), (sq, .inr (4, [.int mc_sq, .ref tE, .int 0])), (gq, .inr (4, [.int mc_gq, .ref tE, .int 0]))]) hP hD [0, 1, 2, 3, 4] [] rfl rfl (by decide) (by decide) hk1 hFc hP1 hD1
  generalize H1 = H at hP hS ⊢
  have hP : va_P (dC, dI) vwCl [(h0, .inr (10, [.ref fq, .ref sq, .ref gq, .ref nq, .ref dq, .ref pq, .int pl, .int vx_4, .int vx_5])), (nq, .inr (8, [.int vx_6, .ref tq, .ref zq, .ref wq])), (fq, .inr (4, [.int mc_fq, .ref tE, .int 0])), (sq, .inr (4, [.int mc_sq, .ref tE, .int 0])), (gq, .inr (4, [.int mc_gq, .ref tE, .int 0]))] H := hP
  have hD : va_D A [(h0, .inr (10, [.ref fq, .ref sq, .ref gq, .ref nq, .ref dq, .ref pq, .int pl, .int vx_4, .int vx_5])), (nq, .inr (8, [.int vx_6, .ref tq, .ref zq, .ref wq])), (fq, .inr (4, [.int mc_fq, .ref tE, .int 0])), (sq, .inr (4, [.int mc_sq, .ref tE, .int 0])), (gq, .inr (4, [.int mc_gq, .ref tE, .int 0]))] := hD
  refine W.widen (k := 0) (n := 0) (by omega) (by omega) ?_
  obtain rfl : r_3 = 0 := hw
  have hP9 := hP.sub (ws' := [(h0, .inr (10, [.ref fq, .ref sq, .ref gq, .ref nq, .ref dq, .ref pq, .int pl, .int vx_4, .int vx_5])), (nq, .inr (8, [.int vx_6, .ref tq, .ref zq, .ref wq])), (fq, .inr (4, [.int mc_fq, .ref tE, .int 0])), (sq, .inr (4, [.int mc_sq, .ref tE, .int 0])), (gq, .inr (4, [.int mc_gq, .ref tE, .int 0]))]) [0, 1, 2, 3, 4] rfl
  have hD9 := hD.sub (ws' := [(h0, .inr (10, [.ref fq, .ref sq, .ref gq, .ref nq, .ref dq, .ref pq, .int pl, .int vx_4, .int vx_5])), (nq, .inr (8, [.int vx_6, .ref tq, .ref zq, .ref wq])), (fq, .inr (4, [.int mc_fq, .ref tE, .int 0])), (sq, .inr (4, [.int mc_sq, .ref tE, .int 0])), (gq, .inr (4, [.int mc_gq, .ref tE, .int 0]))]) [0, 1, 2, 3, 4] (by decide) rfl
  have hK9 := hK.sub (tys' := []) [] rfl
  exact W.iret (v := 0) hx hb hr (fun t ht hW => ⟨⟨0, (), rfl, rfl, vx_4, vx_5, vx_6, by rw [ht]; exact hP9, va_K.moved hW.alike hK9, hD9⟩, hS.F ht⟩) hS.2.2 dX5_ring_22
def vh_c_ring_f : List Cond := .code yX5_ring cX5_ring 2 (some .int) :: ([Cond.code yX5_isTone cX5_isTone 1 (some .boolean), Cond.methodLink RX5 211 yX5_isTone, Cond.static yX5_isTone, Cond.initialized RX5, Cond.classLink RX5 42 "java/lang/IllegalArgumentException", Cond.initialized "java/lang/IllegalArgumentException"] ++ [])
def v_c_ring_f : List Cond := vh_c_ring_f ++ (thrI)
theorem gg_c_ring_f_c_isTone_f : GoodIn v_c_ring_f v_c_isTone_f := goodIn_r _ [1] (by rfl) (by decide +kernel)
set_option maxHeartbeats 4000000 in
set_option maxRecDepth 100000 in
theorem c_ring_f (l : Launch) (hl9 : l.stackTraces = false) (dC : Nat → ClassId) (dI : Nat → Nat → Nat) (tE : Nat) (h0 : Nat) (fq : Nat) (sq : Nat) (gq : Nat) (nq : Nat) (dq : Nat) (pq : Nat) (pl : Int32) (bl : Int32) (tb : Int32) (p0 : Int32) (sz : Nat) (h : p0 < 0 ∨ 3 < p0) : vx_Met l yX5_ring v_c_ring_f ({ frames := 6, cells := 1, slots := 6, locals := 90 }) (va_Pc [.ref h0, .int p0] (Pre0 dC dI tE sz [] [(h0, .inr (10, [.ref fq, .ref sq, .ref gq, .ref nq, .ref dq, .ref pq, .int pl, .int bl, .int tb]))])) (va_Qi (fun (r : Int32) (_ : Unit) => False) (fun _ t => Pst dC dI [] (va_A [(h0, .inr (10, [.ref fq, .ref sq, .ref gq, .ref nq, .ref dq, .ref pq, .int pl, .int bl, .int tb]))] sz) [(h0, .inr (10, [.ref fq, .ref sq, .ref gq, .ref nq, .ref dq, .ref pq, .int pl, .int bl, .int tb]))] t) (va_A [(h0, .inr (10, [.ref fq, .ref sq, .ref gq, .ref nq, .ref dq, .ref pq, .int pl, .int bl, .int tb]))] sz)) (vx_X (fun _ : Unit => True) (fun E _ t => E = "java/lang/IllegalArgumentException" ∧ Pst dC dI [] (va_A [(h0, .inr (10, [.ref fq, .ref sq, .ref gq, .ref nq, .ref dq, .ref pq, .int pl, .int bl, .int tb]))] sz) [(h0, .inr (10, [.ref fq, .ref sq, .ref gq, .ref nq, .ref dq, .ref pq, .int pl, .int bl, .int tb]))] t) (va_A [(h0, .inr (10, [.ref fq, .ref sq, .ref gq, .ref nq, .ref dq, .ref pq, .int pl, .int bl, .int tb]))] sz)) 1 6 (va_A [(h0, .inr (10, [.ref fq, .ref sq, .ref gq, .ref nq, .ref dq, .ref pq, .int pl, .int bl, .int tb]))] sz) := by
  refine vx_ofW (cc := cX5_ring) (maxL := 2) (ret := (some .int)) (by decide) rfl ?_
  intro p e s m args below meth c s₁ B hml hEx hv
  obtain ⟨rfl, hsz, hP, hK, hD0, hT⟩ := hv
  have hx := B.exec
  have hb := B.bytes
  have hr := B.returns
  have hts := atoms_spec (ws := v_c_ring_f) B.pre
  have hown : s.vm.findClass RX5 = some m.cls := findClass_of_methodNamed B.named
  have hlocks := B.notSynchronized
  subst hsz
  have hD := hD0.self (sz := s.heap.size)
  generalize hAe : va_A [(h0, .inr (10, [.ref fq, .ref sq, .ref gq, .ref nq, .ref dq, .ref pq, .int pl, .int bl, .int tb]))] s.heap.size = A at hD hT ⊢
  have hA : ∀ q : Nat, s.heap.size ≤ q → A q := fun q h => by rw [← hAe]; exact Or.inr h
  have hS : va_S A s.heap s.heap [] := va_S.rf
  have hl := lv_entry ([.ref h0, .int p0]) (n := 2) (Nat.le_of_ble_eq_true rfl)
  rw [lg_entry_eq]
  generalize (lg_sl ([.ref h0, .int p0]) ++ List.replicate (2 - (lg_sl ([.ref h0, .int p0])).length) Slot.unset).toArray = ls at hl ⊢
  have hl : lv_has ls 2 [(0, .ref h0), (1, .int p0)] := hl
  refine lv_iload_n hx hb dX5_ring_0 rfl (lv_at hl 1 rfl) ?_
  have hPc := hP.sub (ws' := []) [] rfl
  have hDc := hD.sub (ws' := []) [] (by decide) rfl
  have hKc := hK.sub (tys' := []) [] rfl
  have hFc := va_free (wc := []) hD hS hA [] rfl
  refine va_calli (va_runS (As := [.int p0]) (rest := []) ⟨hx, hb, hml, hown, hts⟩ (c_isTone_f l hl9 dC dI tE p0 _ (by first | assumption | decide | omega)) (va_cwS 1 hts (goodIn_app (goodIn_r _ [2, 3, 4] (by rfl) (by decide +kernel)) gg_c_ring_f_c_isTone_f) rfl rfl rfl (by decide +kernel) ⟨Nat.le_of_ble_eq_true rfl, Nat.le_of_ble_eq_true rfl⟩) ⟨Pre0.blind, Pre0.give hPc hKc hDc hT hS hFc⟩ rfl rfl hl.1 rfl (lv_room (Nat.le_of_ble_eq_true rfl)) dX5_ring_1 ⟨Nat.le_of_ble_eq_true rfl, Nat.le_of_ble_eq_true rfl⟩) hS (fun q _ h => hFc q h) hFc (fun r_1 u t H1 locs ht hvm hw hB hz1 hk1 hS => ?_)
  obtain ⟨hP1, hK1, hD1⟩ := hB
  rw [ht] at hP1
  have hK1 := va_K.moved hvm.symm hK1
  obtain ⟨hP, hD⟩ := va_join (wr := [(h0, .inr (10, [.ref fq, .ref sq, .ref gq, .ref nq, .ref dq, .ref pq, .int pl, .int bl, .int tb]))]) (w1 := []) hP hD [] [0] rfl rfl (by decide) (by decide) hk1 hFc hP1 hD1
  generalize H1 = H at hP hS ⊢
  have hP : va_P (dC, dI) vwCl [(h0, .inr (10, [.ref fq, .ref sq, .ref gq, .ref nq, .ref dq, .ref pq, .int pl, .int bl, .int tb]))] H := hP
  have hD : va_D A [(h0, .inr (10, [.ref fq, .ref sq, .ref gq, .ref nq, .ref dq, .ref pq, .int pl, .int bl, .int tb]))] := hD
  refine W.widen (k := 0) (n := 0) (by omega) (by omega) ?_
  obtain rfl : r_1 = 0 := hw
  refine lv_if_ne (tgt := 17) hx hb dX5_ring_4 (by decide) (fun c_2 => absurd (by decide) c_2) (fun _ => ?_)
  have hP9 := hP.sub (ws' := [(h0, .inr (10, [.ref fq, .ref sq, .ref gq, .ref nq, .ref dq, .ref pq, .int pl, .int bl, .int tb]))]) [0] rfl
  have hD9 := hD.sub (ws' := [(h0, .inr (10, [.ref fq, .ref sq, .ref gq, .ref nq, .ref dq, .ref pq, .int pl, .int bl, .int tb]))]) [0] (by decide) rfl
  have hK9 := hK.sub (tys' := []) [] rfl
  obtain ⟨sa, hstr⟩ := hT.s214
  exact vx_throwS (own := RX5) (cls := "java/lang/IllegalArgumentException") (names := ["java/lang/RuntimeException", "java/lang/Exception"]) hx hb hl9 hown (by decide +kernel) (by decide +kernel) (hts (.classLink RX5 42 "java/lang/IllegalArgumentException") (List.mem_of_getElem? (i := 5) rfl)) (hts (.initialized "java/lang/IllegalArgumentException") (List.mem_of_getElem? (i := 6) rfl)) hstr (vx_hat (L := vx_atS RX5 46 "java/lang/IllegalArgumentException" ["java/lang/RuntimeException", "java/lang/Exception"]) (B := [.castable "java/lang/IllegalArgumentException" "java/lang/IllegalArgumentException", .declares ⟨"java/lang/RuntimeException", "<init>", "(Ljava/lang/String;)V"⟩, .declares ⟨"java/lang/Exception", "<init>", "(Ljava/lang/String;)V"⟩, .declares ⟨"java/lang/Throwable", "<init>", "(Ljava/lang/String;)V"⟩]) (fun w hw => hts w (List.mem_append_right _ hw)) (by decide +kernel) (vx_c (va_Nw.use rfl hT.eI) (vx_c (va_Nw.use rfl hT.d1) (vx_c (va_Nw.use rfl hT.d2) (vx_c (va_Nw.use rfl hT.d3) (vx_n)))))) (by decide +kernel) hT.zU hT.zS hS (hl.1.trans hml.symm) dX5_ring_7 dX5_ring_10 dX5_ring_11 dX5_ring_13 dX5_ring_16 (fun x hx => (hEx x hx).elim) (Nat.le_of_ble_eq_true rfl) (Nat.le_of_ble_eq_true rfl) (Nat.le_of_ble_eq_true rfl) (Nat.le_of_ble_eq_true rfl) hlocks (fun t ha hsz hk => ⟨(), trivial, ⟨rfl, hP9.kept (fun k q hq => hk q.1 (hP9 k q hq).lt), va_K.moved ha hK9, hD9⟩, Nat.le_trans hS.1 hsz, fun q h1 h2 => (hk q (Nat.lt_of_lt_of_le h1 hS.1)).trans (hS.2.1 q h1 h2)⟩) hS.2.2 (Nat.le_of_ble_eq_true rfl) (Nat.le_of_ble_eq_true rfl)
def v_c_wouldTurn_t : List Cond := .code yX5_wouldTurn cX5_wouldTurn 5 (some .int) :: ([Cond.code yX5_isTone cX5_isTone 1 (some .boolean), Cond.methodLink RX5 211 yX5_isTone, Cond.static yX5_isTone, Cond.initialized RX5, Cond.fieldLink RX5 25 "HotelOfBells" "now" "LHotelOfBells$Moment;", Cond.fieldLink RX5 156 "HotelOfBells$Moment" "heard" "I", Cond.code yX5_heardWith cX5_heardWith 2 (some .int), Cond.constant RX5 247 (100000), Cond.methodLink RX5 252 yX5_heardWith, Cond.static yX5_heardWith, Cond.fieldLink RX5 10 "HotelOfBells" "floors" "Ljava/util/ArrayList;", Cond.code yJx4a65c_size_8abf5 cJx4a65c_size_8abf5 1 (some .int), Cond.fieldLink RJx4a65c 48 "java/util/ArrayList" "size" "I", Cond.methodLink RX5 49 yJx4a65c_size_8abf5, Cond.instanceMethod yJx4a65c_size_8abf5, Cond.selects RJx4a65c yJx4a65c_size_8abf5 yJx4a65c_size_8abf5, Cond.initialized RJx4a65c] ++ (wsX50 ++ (wsX30 ++ (wsJx4a65c0 ++ []))))
theorem u_c_wouldTurn_t_X5 : ∀ w ∈ wsX50, w ∈ v_c_wouldTurn_t := fun _ h => List.mem_cons_of_mem _ (List.mem_append_right _ (List.mem_append_left _ h))
theorem u_c_wouldTurn_t_X3 : ∀ w ∈ wsX30, w ∈ v_c_wouldTurn_t := fun _ h => List.mem_cons_of_mem _ (List.mem_append_right _ (List.mem_append_right _ (List.mem_append_left _ h)))
theorem u_c_wouldTurn_t_Jx4a65c : ∀ w ∈ wsJx4a65c0, w ∈ v_c_wouldTurn_t := fun _ h => List.mem_cons_of_mem _ (List.mem_append_right _ (List.mem_append_right _ (List.mem_append_right _ (List.mem_append_left _ h))))
theorem gg_c_wouldTurn_t_c_isTone_t : GoodIn v_c_wouldTurn_t v_c_isTone_t := goodIn_r _ [1] (by rfl) (by decide +kernel)
theorem gg_c_wouldTurn_t_c_heardWith : GoodIn v_c_wouldTurn_t v_c_heardWith := goodIn_r _ [7, 8] (by rfl) (by decide +kernel)
theorem gg_c_wouldTurn_t_c_AL_size : GoodIn v_c_wouldTurn_t v_c_AL_size := goodIn_r _ [12, 13, 31, 32, 33] (by rfl) (by decide +kernel)
set_option maxHeartbeats 4000000 in
set_option maxRecDepth 100000 in
theorem c_wouldTurn_t (l : Launch) (hl9 : l.stackTraces = false) (dC : Nat → ClassId) (dI : Nat → Nat → Nat) (tE : Nat) (h0 : Nat) (fq : Nat) (sq : Nat) (gq : Nat) (nq : Nat) (dq : Nat) (pq : Nat) (pl : Int32) (bl : Int32) (tb : Int32) (mc_fq : Int32) (tq : Nat) (zq : Nat) (wq : Nat) (hd : Int32) (p0 : Int32) (sz : Nat) (h1 : ¬ p0 < 0) (h2 : ¬ 3 < p0) : Met l yX5_wouldTurn v_c_wouldTurn_t ({ frames := 1, cells := 0, slots := 0, locals := 21 }) (va_Pc [.ref h0, .int p0] (Pre0 dC dI tE sz [] [(h0, .inr (10, [.ref fq, .ref sq, .ref gq, .ref nq, .ref dq, .ref pq, .int pl, .int bl, .int tb])), (fq, .inr (4, [.int mc_fq, .ref tE, .int 0])), (nq, .inr (8, [.int hd, .ref tq, .ref zq, .ref wq]))])) (va_Qi (fun (r : Int32) (_ : Unit) => r = 0) (fun _ t => Pst dC dI [] (va_A [(h0, .inr (10, [.ref fq, .ref sq, .ref gq, .ref nq, .ref dq, .ref pq, .int pl, .int bl, .int tb])), (fq, .inr (4, [.int mc_fq, .ref tE, .int 0])), (nq, .inr (8, [.int hd, .ref tq, .ref zq, .ref wq]))] sz) [(h0, .inr (10, [.ref fq, .ref sq, .ref gq, .ref nq, .ref dq, .ref pq, .int pl, .int bl, .int tb])), (nq, .inr (8, [.int hd, .ref tq, .ref zq, .ref wq])), (fq, .inr (4, [.int mc_fq, .ref tE, .int 0]))] t) (va_A [(h0, .inr (10, [.ref fq, .ref sq, .ref gq, .ref nq, .ref dq, .ref pq, .int pl, .int bl, .int tb])), (fq, .inr (4, [.int mc_fq, .ref tE, .int 0])), (nq, .inr (8, [.int hd, .ref tq, .ref zq, .ref wq]))] sz)) 0 0 (va_A [(h0, .inr (10, [.ref fq, .ref sq, .ref gq, .ref nq, .ref dq, .ref pq, .int pl, .int bl, .int tb])), (fq, .inr (4, [.int mc_fq, .ref tE, .int 0])), (nq, .inr (8, [.int hd, .ref tq, .ref zq, .ref wq]))] sz) := by
  refine Met.ofW (cc := cX5_wouldTurn) (maxL := 5) (ret := (some .int)) (by decide) rfl ?_
  intro p e s m args below meth c s₁ B hml hv
  obtain ⟨rfl, hsz, hP, hK, hD0, hT⟩ := hv
  have hx := B.exec
  have hb := B.bytes
  have hr := B.returns
  have hts := atoms_spec (ws := v_c_wouldTurn_t) B.pre
  have hown : s.vm.findClass RX5 = some m.cls := findClass_of_methodNamed B.named
  have hlocks := B.notSynchronized
  subst hsz
  have hD := hD0.self (sz := s.heap.size)
  generalize hAe : va_A [(h0, .inr (10, [.ref fq, .ref sq, .ref gq, .ref nq, .ref dq, .ref pq, .int pl, .int bl, .int tb])), (fq, .inr (4, [.int mc_fq, .ref tE, .int 0])), (nq, .inr (8, [.int hd, .ref tq, .ref zq, .ref wq]))] s.heap.size = A at hD hT ⊢
  have hA : ∀ q : Nat, s.heap.size ≤ q → A q := fun q h => by rw [← hAe]; exact Or.inr h
  have hS : va_S A s.heap s.heap [] := va_S.rf
  have hl := lv_entry ([.ref h0, .int p0]) (n := 5) (Nat.le_of_ble_eq_true rfl)
  rw [lg_entry_eq]
  generalize (lg_sl ([.ref h0, .int p0]) ++ List.replicate (5 - (lg_sl ([.ref h0, .int p0])).length) Slot.unset).toArray = ls at hl ⊢
  have hl : lv_has ls 5 [(0, .ref h0), (1, .int p0)] := hl
  refine lv_iload_n hx hb dX5_wouldTurn_0 rfl (lv_at hl 1 rfl) ?_
  have hPc := hP.sub (ws' := []) [] rfl
  have hDc := hD.sub (ws' := []) [] (by decide) rfl
  have hKc := hK.sub (tys' := []) [] rfl
  have hFc := va_free (wc := []) hD hS hA [] rfl
  refine va_calli (va_runS (As := [.int p0]) (rest := []) ⟨hx, hb, hml, hown, hts⟩ (c_isTone_t l hl9 dC dI tE p0 _ (by first | assumption | decide | omega) (by first | assumption | decide | omega)) (va_cwS 1 hts (goodIn_app (goodIn_r _ [2, 3, 4] (by rfl) (by decide +kernel)) gg_c_wouldTurn_t_c_isTone_t) rfl rfl rfl (by decide +kernel) ⟨Nat.le_of_ble_eq_true rfl, Nat.le_of_ble_eq_true rfl⟩) ⟨Pre0.blind, Pre0.give hPc hKc hDc hT hS hFc⟩ rfl rfl hl.1 rfl (lv_room (Nat.le_of_ble_eq_true rfl)) dX5_wouldTurn_1 ⟨Nat.le_of_ble_eq_true rfl, Nat.le_of_ble_eq_true rfl⟩) hS (fun q _ h => hFc q h) hFc (fun r_1 u t H1 locs ht hvm hw hB hz1 hk1 hS => ?_)
  obtain ⟨hP1, hK1, hD1⟩ := hB
  rw [ht] at hP1
  have hK1 := va_K.moved hvm.symm hK1
  obtain ⟨hP, hD⟩ := va_join (wr := [(h0, .inr (10, [.ref fq, .ref sq, .ref gq, .ref nq, .ref dq, .ref pq, .int pl, .int bl, .int tb])), (fq, .inr (4, [.int mc_fq, .ref tE, .int 0])), (nq, .inr (8, [.int hd, .ref tq, .ref zq, .ref wq]))]) (w1 := []) hP hD [] [0, 1, 2] rfl rfl (by decide) (by decide) hk1 hFc hP1 hD1
  generalize H1 = H at hP hS ⊢
  have hP : va_P (dC, dI) vwCl [(h0, .inr (10, [.ref fq, .ref sq, .ref gq, .ref nq, .ref dq, .ref pq, .int pl, .int bl, .int tb])), (fq, .inr (4, [.int mc_fq, .ref tE, .int 0])), (nq, .inr (8, [.int hd, .ref tq, .ref zq, .ref wq]))] H := hP
  have hD : va_D A [(h0, .inr (10, [.ref fq, .ref sq, .ref gq, .ref nq, .ref dq, .ref pq, .int pl, .int bl, .int tb])), (fq, .inr (4, [.int mc_fq, .ref tE, .int 0])), (nq, .inr (8, [.int hd, .ref tq, .ref zq, .ref wq]))] := hD
  refine W.widen (k := 0) (n := 0) (by omega) (by omega) ?_
  obtain rfl : r_1 = 1 := hw
  refine lv_if_ne (tgt := 17) hx hb dX5_wouldTurn_4 (by decide) (fun _ => ?_) (fun c_2 => absurd c_2 (by decide))
  refine lv_aload_n hx hb dX5_wouldTurn_17 rfl (lv_at hl 0 rfl) ?_
  refine va_get (D := (dC, dI)) (ci := 10) (v := .ref nq) (C := RX5) (T := TX5) (N := 9) hx hb hts u_c_wouldTurn_t_X5 hown hK hP 0 rfl rfl 3 (by decide) (hts (.fieldLink RX5 25 "HotelOfBells" "now" "LHotelOfBells$Moment;") (List.mem_of_getElem? (i := 5) rfl)) (fun _ h9 => h9) rfl dX5_wouldTurn_18 ?_
  refine va_get (D := (dC, dI)) (ci := 8) (v := .int hd) (C := RX3) (T := TX3) (N := 4) hx hb hts u_c_wouldTurn_t_X3 hown hK hP 2 rfl rfl 0 (by decide) (hts (.fieldLink RX5 156 "HotelOfBells$Moment" "heard" "I") (List.mem_of_getElem? (i := 6) rfl)) (fun _ h9 => h9) rfl dX5_wouldTurn_21 ?_
  refine lv_iload_n hx hb dX5_wouldTurn_24 rfl (lv_at hl 1 rfl) ?_
  have hPc := hP.sub (ws' := []) [] rfl
  have hDc := hD.sub (ws' := []) [] (by decide) rfl
  have hKc := hK.sub (tys' := []) [] rfl
  have hFc := va_free (wc := []) hD hS hA [] rfl
  refine va_calli (va_runS (As := [.int hd, .int p0]) (rest := []) ⟨hx, hb, hml, hown, hts⟩ (c_heardWith l hl9 dC dI tE hd p0 _ ) (va_cwS 2 hts (goodIn_app (goodIn_r _ [9, 10, 4] (by rfl) (by decide +kernel)) gg_c_wouldTurn_t_c_heardWith) rfl rfl rfl (by decide +kernel) ⟨Nat.le_of_ble_eq_true rfl, Nat.le_of_ble_eq_true rfl⟩) ⟨Pre0.blind, Pre0.give hPc hKc hDc hT hS hFc⟩ rfl rfl hl.1 rfl (lv_room (Nat.le_of_ble_eq_true rfl)) dX5_wouldTurn_25 ⟨Nat.le_of_ble_eq_true rfl, Nat.le_of_ble_eq_true rfl⟩) hS (fun q _ h => hFc q h) hFc (fun r_3 u t H1 locs ht hvm hw hB hz1 hk1 hS => ?_)
  obtain ⟨hP1, hK1, hD1⟩ := hB
  rw [ht] at hP1
  have hK1 := va_K.moved hvm.symm hK1
  obtain ⟨hP, hD⟩ := va_join (wr := [(h0, .inr (10, [.ref fq, .ref sq, .ref gq, .ref nq, .ref dq, .ref pq, .int pl, .int bl, .int tb])), (fq, .inr (4, [.int mc_fq, .ref tE, .int 0])), (nq, .inr (8, [.int hd, .ref tq, .ref zq, .ref wq]))]) (w1 := []) hP hD [] [0, 1, 2] rfl rfl (by decide) (by decide) hk1 hFc hP1 hD1
  generalize H1 = H at hP hS ⊢
  have hP : va_P (dC, dI) vwCl [(h0, .inr (10, [.ref fq, .ref sq, .ref gq, .ref nq, .ref dq, .ref pq, .int pl, .int bl, .int tb])), (fq, .inr (4, [.int mc_fq, .ref tE, .int 0])), (nq, .inr (8, [.int hd, .ref tq, .ref zq, .ref wq]))] H := hP
  have hD : va_D A [(h0, .inr (10, [.ref fq, .ref sq, .ref gq, .ref nq, .ref dq, .ref pq, .int pl, .int bl, .int tb])), (fq, .inr (4, [.int mc_fq, .ref tE, .int 0])), (nq, .inr (8, [.int hd, .ref tq, .ref zq, .ref wq]))] := hD
  refine W.widen (k := 0) (n := 0) (by omega) (by omega) ?_
  refine lv_istore_n (lv' := [(2, .int r_3), (0, .ref h0), (1, .int p0)]) hx hb dX5_wouldTurn_28 rfl hl (by decide) rfl (fun ls hl => ?_)
  refine lv_iconst (v := 0) hx hb dX5_wouldTurn_29 (by decide) ?_
  refine lv_istore_n (lv' := [(3, .int 0), (2, .int r_3), (0, .ref h0), (1, .int p0)]) hx hb dX5_wouldTurn_30 rfl hl (by decide) rfl (fun ls hl => ?_)
  refine lv_iconst (v := 0) hx hb dX5_wouldTurn_31 (by decide) ?_
  refine lv_istore (lv' := [(4, .int 0), (3, .int 0), (2, .int r_3), (0, .ref h0), (1, .int p0)]) hx hb dX5_wouldTurn_32 hl (by decide) rfl (fun ls hl => ?_)
  refine lv_iload hx hb dX5_wouldTurn_34 (lv_at hl 0 rfl) ?_
  refine lv_aload_n hx hb dX5_wouldTurn_36 rfl (lv_at hl 3 rfl) ?_
  refine va_get (D := (dC, dI)) (ci := 10) (v := .ref fq) (C := RX5) (T := TX5) (N := 9) hx hb hts u_c_wouldTurn_t_X5 hown hK hP 0 rfl rfl 0 (by decide) (hts (.fieldLink RX5 10 "HotelOfBells" "floors" "Ljava/util/ArrayList;") (List.mem_of_getElem? (i := 11) rfl)) (fun _ h9 => h9) rfl dX5_wouldTurn_37 ?_
  have hPc := hP.sub (ws' := [(fq, .inr (4, [.int mc_fq, .ref tE, .int 0]))]) [1] rfl
  have hDc := hD.sub (ws' := [(fq, .inr (4, [.int mc_fq, .ref tE, .int 0]))]) [1] (by decide) rfl
  have hKc := hK.sub (tys' := []) [] rfl
  have hFc := va_free (wc := [(fq, .inr (4, [.int mc_fq, .ref tE, .int 0]))]) hD hS hA [1] rfl
  refine va_calli (va_runV (As := []) (rest := [.int 0]) ⟨hx, hb, hml, hown, hts⟩ (c_AL_size l hl9 dC dI tE fq mc_fq 0 (.ref tE) _ ) (cwV 0 hts (goodIn_app (goodIn_r _ [14, 15, 16, 17] (by rfl) (by decide +kernel)) gg_c_wouldTurn_t_c_AL_size) rfl rfl rfl (by decide +kernel) ⟨Nat.le_of_ble_eq_true rfl, Nat.le_of_ble_eq_true rfl⟩) ⟨Pre0.blind, va_recv hKc hPc (ci := 4) (q0 := 0) rfl rfl, Pre0.give hPc hKc hDc hT hS hFc⟩ rfl rfl hl.1 rfl (lv_room (Nat.le_of_ble_eq_true rfl)) dX5_wouldTurn_40 ⟨Nat.le_of_ble_eq_true rfl, Nat.le_of_ble_eq_true rfl⟩) hS (fun q _ h => hFc q h) hFc (fun r_4 u t H1 locs ht hvm hw hB hz1 hk1 hS => ?_)
  obtain ⟨hP1, hK1, hD1⟩ := hB
  rw [ht] at hP1
  have hK1 := va_K.moved hvm.symm hK1
  obtain ⟨hP, hD⟩ := va_join (wr := [(h0, .inr (10, [.ref fq, .ref sq, .ref gq, .ref nq, .ref dq, .ref pq, .int pl, .int bl, .int tb])), (nq, .inr (8, [.int hd, .ref tq, .ref zq, .ref wq]))]) (w1 := [(fq, .inr (4, [.int mc_fq, .ref tE, .int 0]))]) hP hD [1] [0, 2] rfl rfl (by decide) (by decide) hk1 hFc hP1 hD1
  generalize H1 = H at hP hS ⊢
  have hP : va_P (dC, dI) vwCl [(h0, .inr (10, [.ref fq, .ref sq, .ref gq, .ref nq, .ref dq, .ref pq, .int pl, .int bl, .int tb])), (nq, .inr (8, [.int hd, .ref tq, .ref zq, .ref wq])), (fq, .inr (4, [.int mc_fq, .ref tE, .int 0]))] H := hP
  have hD : va_D A [(h0, .inr (10, [.ref fq, .ref sq, .ref gq, .ref nq, .ref dq, .ref pq, .int pl, .int bl, .int tb])), (nq, .inr (8, [.int hd, .ref tq, .ref zq, .ref wq])), (fq, .inr (4, [.int mc_fq, .ref tE, .int 0]))] := hD
  refine W.widen (k := 0) (n := 0) (by omega) (by omega) ?_
  obtain rfl : r_4 = 0 := hw
  refine lv_icmp_ge (tgt := 74) hx hb dX5_wouldTurn_43 (by decide) (fun _ => ?_) (fun c_5 => absurd (by decide) c_5)
  refine lv_iload_n hx hb dX5_wouldTurn_74 rfl (lv_at hl 1 rfl) ?_
  have hP9 := hP.sub (ws' := [(h0, .inr (10, [.ref fq, .ref sq, .ref gq, .ref nq, .ref dq, .ref pq, .int pl, .int bl, .int tb])), (nq, .inr (8, [.int hd, .ref tq, .ref zq, .ref wq])), (fq, .inr (4, [.int mc_fq, .ref tE, .int 0]))]) [0, 1, 2] rfl
  have hD9 := hD.sub (ws' := [(h0, .inr (10, [.ref fq, .ref sq, .ref gq, .ref nq, .ref dq, .ref pq, .int pl, .int bl, .int tb])), (nq, .inr (8, [.int hd, .ref tq, .ref zq, .ref wq])), (fq, .inr (4, [.int mc_fq, .ref tE, .int 0]))]) [0, 1, 2] (by decide) rfl
  have hK9 := hK.sub (tys' := []) [] rfl
  exact W.iret (v := 0) hx hb hr (fun t ht hW => ⟨⟨0, (), rfl, rfl, by rw [ht]; exact hP9, va_K.moved hW.alike hK9, hD9⟩, hS.F ht⟩) hS.2.2 dX5_wouldTurn_75
def vh_c_wouldTurn_f : List Cond := .code yX5_wouldTurn cX5_wouldTurn 5 (some .int) :: ([Cond.code yX5_isTone cX5_isTone 1 (some .boolean), Cond.methodLink RX5 211 yX5_isTone, Cond.static yX5_isTone, Cond.initialized RX5, Cond.classLink RX5 42 "java/lang/IllegalArgumentException", Cond.initialized "java/lang/IllegalArgumentException"] ++ [])
def v_c_wouldTurn_f : List Cond := vh_c_wouldTurn_f ++ (thrI)
theorem gg_c_wouldTurn_f_c_isTone_f : GoodIn v_c_wouldTurn_f v_c_isTone_f := goodIn_r _ [1] (by rfl) (by decide +kernel)
set_option maxHeartbeats 4000000 in
set_option maxRecDepth 100000 in
theorem c_wouldTurn_f (l : Launch) (hl9 : l.stackTraces = false) (dC : Nat → ClassId) (dI : Nat → Nat → Nat) (tE : Nat) (h0 : Nat) (fq : Nat) (sq : Nat) (gq : Nat) (nq : Nat) (dq : Nat) (pq : Nat) (pl : Int32) (bl : Int32) (tb : Int32) (p0 : Int32) (sz : Nat) (h : p0 < 0 ∨ 3 < p0) : vx_Met l yX5_wouldTurn v_c_wouldTurn_f ({ frames := 6, cells := 1, slots := 6, locals := 90 }) (va_Pc [.ref h0, .int p0] (Pre0 dC dI tE sz [] [(h0, .inr (10, [.ref fq, .ref sq, .ref gq, .ref nq, .ref dq, .ref pq, .int pl, .int bl, .int tb]))])) (va_Qi (fun (r : Int32) (_ : Unit) => False) (fun _ t => Pst dC dI [] (va_A [(h0, .inr (10, [.ref fq, .ref sq, .ref gq, .ref nq, .ref dq, .ref pq, .int pl, .int bl, .int tb]))] sz) [(h0, .inr (10, [.ref fq, .ref sq, .ref gq, .ref nq, .ref dq, .ref pq, .int pl, .int bl, .int tb]))] t) (va_A [(h0, .inr (10, [.ref fq, .ref sq, .ref gq, .ref nq, .ref dq, .ref pq, .int pl, .int bl, .int tb]))] sz)) (vx_X (fun _ : Unit => True) (fun E _ t => E = "java/lang/IllegalArgumentException" ∧ Pst dC dI [] (va_A [(h0, .inr (10, [.ref fq, .ref sq, .ref gq, .ref nq, .ref dq, .ref pq, .int pl, .int bl, .int tb]))] sz) [(h0, .inr (10, [.ref fq, .ref sq, .ref gq, .ref nq, .ref dq, .ref pq, .int pl, .int bl, .int tb]))] t) (va_A [(h0, .inr (10, [.ref fq, .ref sq, .ref gq, .ref nq, .ref dq, .ref pq, .int pl, .int bl, .int tb]))] sz)) 1 6 (va_A [(h0, .inr (10, [.ref fq, .ref sq, .ref gq, .ref nq, .ref dq, .ref pq, .int pl, .int bl, .int tb]))] sz) := by
  refine vx_ofW (cc := cX5_wouldTurn) (maxL := 5) (ret := (some .int)) (by decide) rfl ?_
  intro p e s m args below meth c s₁ B hml hEx hv
  obtain ⟨rfl, hsz, hP, hK, hD0, hT⟩ := hv
  have hx := B.exec
  have hb := B.bytes
  have hr := B.returns
  have hts := atoms_spec (ws := v_c_wouldTurn_f) B.pre
  have hown : s.vm.findClass RX5 = some m.cls := findClass_of_methodNamed B.named
  have hlocks := B.notSynchronized
  subst hsz
  have hD := hD0.self (sz := s.heap.size)
  generalize hAe : va_A [(h0, .inr (10, [.ref fq, .ref sq, .ref gq, .ref nq, .ref dq, .ref pq, .int pl, .int bl, .int tb]))] s.heap.size = A at hD hT ⊢
  have hA : ∀ q : Nat, s.heap.size ≤ q → A q := fun q h => by rw [← hAe]; exact Or.inr h
  have hS : va_S A s.heap s.heap [] := va_S.rf
  have hl := lv_entry ([.ref h0, .int p0]) (n := 5) (Nat.le_of_ble_eq_true rfl)
  rw [lg_entry_eq]
  generalize (lg_sl ([.ref h0, .int p0]) ++ List.replicate (5 - (lg_sl ([.ref h0, .int p0])).length) Slot.unset).toArray = ls at hl ⊢
  have hl : lv_has ls 5 [(0, .ref h0), (1, .int p0)] := hl
  refine lv_iload_n hx hb dX5_wouldTurn_0 rfl (lv_at hl 1 rfl) ?_
  have hPc := hP.sub (ws' := []) [] rfl
  have hDc := hD.sub (ws' := []) [] (by decide) rfl
  have hKc := hK.sub (tys' := []) [] rfl
  have hFc := va_free (wc := []) hD hS hA [] rfl
  refine va_calli (va_runS (As := [.int p0]) (rest := []) ⟨hx, hb, hml, hown, hts⟩ (c_isTone_f l hl9 dC dI tE p0 _ (by first | assumption | decide | omega)) (va_cwS 1 hts (goodIn_app (goodIn_r _ [2, 3, 4] (by rfl) (by decide +kernel)) gg_c_wouldTurn_f_c_isTone_f) rfl rfl rfl (by decide +kernel) ⟨Nat.le_of_ble_eq_true rfl, Nat.le_of_ble_eq_true rfl⟩) ⟨Pre0.blind, Pre0.give hPc hKc hDc hT hS hFc⟩ rfl rfl hl.1 rfl (lv_room (Nat.le_of_ble_eq_true rfl)) dX5_wouldTurn_1 ⟨Nat.le_of_ble_eq_true rfl, Nat.le_of_ble_eq_true rfl⟩) hS (fun q _ h => hFc q h) hFc (fun r_1 u t H1 locs ht hvm hw hB hz1 hk1 hS => ?_)
  obtain ⟨hP1, hK1, hD1⟩ := hB
  rw [ht] at hP1
  have hK1 := va_K.moved hvm.symm hK1
  obtain ⟨hP, hD⟩ := va_join (wr := [(h0, .inr (10, [.ref fq, .ref sq, .ref gq, .ref nq, .ref dq, .ref pq, .int pl, .int bl, .int tb]))]) (w1 := []) hP hD [] [0] rfl rfl (by decide) (by decide) hk1 hFc hP1 hD1
  generalize H1 = H at hP hS ⊢
  have hP : va_P (dC, dI) vwCl [(h0, .inr (10, [.ref fq, .ref sq, .ref gq, .ref nq, .ref dq, .ref pq, .int pl, .int bl, .int tb]))] H := hP
  have hD : va_D A [(h0, .inr (10, [.ref fq, .ref sq, .ref gq, .ref nq, .ref dq, .ref pq, .int pl, .int bl, .int tb]))] := hD
  refine W.widen (k := 0) (n := 0) (by omega) (by omega) ?_
  obtain rfl : r_1 = 0 := hw
  refine lv_if_ne (tgt := 17) hx hb dX5_wouldTurn_4 (by decide) (fun c_2 => absurd (by decide) c_2) (fun _ => ?_)
  have hP9 := hP.sub (ws' := [(h0, .inr (10, [.ref fq, .ref sq, .ref gq, .ref nq, .ref dq, .ref pq, .int pl, .int bl, .int tb]))]) [0] rfl
  have hD9 := hD.sub (ws' := [(h0, .inr (10, [.ref fq, .ref sq, .ref gq, .ref nq, .ref dq, .ref pq, .int pl, .int bl, .int tb]))]) [0] (by decide) rfl
  have hK9 := hK.sub (tys' := []) [] rfl
  obtain ⟨sa, hstr⟩ := hT.s214
  exact vx_throwS (own := RX5) (cls := "java/lang/IllegalArgumentException") (names := ["java/lang/RuntimeException", "java/lang/Exception"]) hx hb hl9 hown (by decide +kernel) (by decide +kernel) (hts (.classLink RX5 42 "java/lang/IllegalArgumentException") (List.mem_of_getElem? (i := 5) rfl)) (hts (.initialized "java/lang/IllegalArgumentException") (List.mem_of_getElem? (i := 6) rfl)) hstr (vx_hat (L := vx_atS RX5 46 "java/lang/IllegalArgumentException" ["java/lang/RuntimeException", "java/lang/Exception"]) (B := [.castable "java/lang/IllegalArgumentException" "java/lang/IllegalArgumentException", .declares ⟨"java/lang/RuntimeException", "<init>", "(Ljava/lang/String;)V"⟩, .declares ⟨"java/lang/Exception", "<init>", "(Ljava/lang/String;)V"⟩, .declares ⟨"java/lang/Throwable", "<init>", "(Ljava/lang/String;)V"⟩]) (fun w hw => hts w (List.mem_append_right _ hw)) (by decide +kernel) (vx_c (va_Nw.use rfl hT.eI) (vx_c (va_Nw.use rfl hT.d1) (vx_c (va_Nw.use rfl hT.d2) (vx_c (va_Nw.use rfl hT.d3) (vx_n)))))) (by decide +kernel) hT.zU hT.zS hS (hl.1.trans hml.symm) dX5_wouldTurn_7 dX5_wouldTurn_10 dX5_wouldTurn_11 dX5_wouldTurn_13 dX5_wouldTurn_16 (fun x hx => (hEx x hx).elim) (Nat.le_of_ble_eq_true rfl) (Nat.le_of_ble_eq_true rfl) (Nat.le_of_ble_eq_true rfl) (Nat.le_of_ble_eq_true rfl) hlocks (fun t ha hsz hk => ⟨(), trivial, ⟨rfl, hP9.kept (fun k q hq => hk q.1 (hP9 k q hq).lt), va_K.moved ha hK9, hD9⟩, Nat.le_trans hS.1 hsz, fun q h1 h2 => (hk q (Nat.lt_of_lt_of_le h1 hS.1)).trans (hS.2.1 q h1 h2)⟩) hS.2.2 (Nat.le_of_ble_eq_true rfl) (Nat.le_of_ble_eq_true rfl)
def v_c_write : List Cond := .code yX5_write cX5_write 2 (some .int) :: ([Cond.fieldLink RX5 206 "HotelOfBells" "paperLength" "I", Cond.fieldLink RX5 10 "HotelOfBells" "floors" "Ljava/util/ArrayList;", Cond.code yJx4a65c_size_8abf5 cJx4a65c_size_8abf5 1 (some .int), Cond.fieldLink RJx4a65c 48 "java/util/ArrayList" "size" "I", Cond.methodLink RX5 49 yJx4a65c_size_8abf5, Cond.instanceMethod yJx4a65c_size_8abf5, Cond.selects RJx4a65c yJx4a65c_size_8abf5 yJx4a65c_size_8abf5, Cond.initialized RJx4a65c, Cond.fieldLink RX5 16 "HotelOfBells" "shafts" "Ljava/util/ArrayList;", Cond.fieldLink RX5 19 "HotelOfBells" "guests" "Ljava/util/ArrayList;"] ++ (wsX50 ++ (wsJx4a65c0 ++ [])))
theorem u_c_write_X5 : ∀ w ∈ wsX50, w ∈ v_c_write := fun _ h => List.mem_cons_of_mem _ (List.mem_append_right _ (List.mem_append_left _ h))
theorem u_c_write_Jx4a65c : ∀ w ∈ wsJx4a65c0, w ∈ v_c_write := fun _ h => List.mem_cons_of_mem _ (List.mem_append_right _ (List.mem_append_right _ (List.mem_append_left _ h)))
theorem gg_c_write_c_AL_size : GoodIn v_c_write v_c_AL_size := goodIn_r _ [3, 4, 20, 21, 22] (by rfl) (by decide +kernel)
set_option maxHeartbeats 4000000 in
set_option maxRecDepth 100000 in
theorem c_write (l : Launch) (hl9 : l.stackTraces = false) (dC : Nat → ClassId) (dI : Nat → Nat → Nat) (tE : Nat) (h0 : Nat) (fq : Nat) (sq : Nat) (gq : Nat) (nq : Nat) (dq : Nat) (pq : Nat) (pl : Int32) (bl : Int32) (tb : Int32) (mc_fq : Int32) (mc_sq : Int32) (mc_gq : Int32) (sz : Nat) : Met l yX5_write v_c_write ({ frames := 1, cells := 0, slots := 0, locals := 20 }) (va_Pc [.ref h0] (Pre0 dC dI tE sz [] [(h0, .inr (10, [.ref fq, .ref sq, .ref gq, .ref nq, .ref dq, .ref pq, .int pl, .int bl, .int tb])), (fq, .inr (4, [.int mc_fq, .ref tE, .int 0])), (sq, .inr (4, [.int mc_sq, .ref tE, .int 0])), (gq, .inr (4, [.int mc_gq, .ref tE, .int 0]))])) (va_Qi (fun (r : Int32) (_ : Unit) => r = 0) (fun _ t => Pst dC dI [] (va_A [(h0, .inr (10, [.ref fq, .ref sq, .ref gq, .ref nq, .ref dq, .ref pq, .int pl, .int bl, .int tb])), (fq, .inr (4, [.int mc_fq, .ref tE, .int 0])), (sq, .inr (4, [.int mc_sq, .ref tE, .int 0])), (gq, .inr (4, [.int mc_gq, .ref tE, .int 0]))] sz) [(h0, .inr (10, [.ref fq, .ref sq, .ref gq, .ref nq, .ref dq, .ref pq, .int 0, .int bl, .int tb])), (fq, .inr (4, [.int mc_fq, .ref tE, .int 0])), (sq, .inr (4, [.int mc_sq, .ref tE, .int 0])), (gq, .inr (4, [.int mc_gq, .ref tE, .int 0]))] t) (va_A [(h0, .inr (10, [.ref fq, .ref sq, .ref gq, .ref nq, .ref dq, .ref pq, .int pl, .int bl, .int tb])), (fq, .inr (4, [.int mc_fq, .ref tE, .int 0])), (sq, .inr (4, [.int mc_sq, .ref tE, .int 0])), (gq, .inr (4, [.int mc_gq, .ref tE, .int 0]))] sz)) 0 0 (va_A [(h0, .inr (10, [.ref fq, .ref sq, .ref gq, .ref nq, .ref dq, .ref pq, .int pl, .int bl, .int tb])), (fq, .inr (4, [.int mc_fq, .ref tE, .int 0])), (sq, .inr (4, [.int mc_sq, .ref tE, .int 0])), (gq, .inr (4, [.int mc_gq, .ref tE, .int 0]))] sz) := by
  refine Met.ofW (cc := cX5_write) (maxL := 2) (ret := (some .int)) (by decide) rfl ?_
  intro p e s m args below meth c s₁ B hml hv
  obtain ⟨rfl, hsz, hP, hK, hD0, hT⟩ := hv
  have hx := B.exec
  have hb := B.bytes
  have hr := B.returns
  have hts := atoms_spec (ws := v_c_write) B.pre
  have hown : s.vm.findClass RX5 = some m.cls := findClass_of_methodNamed B.named
  have hlocks := B.notSynchronized
  subst hsz
  have hD := hD0.self (sz := s.heap.size)
  generalize hAe : va_A [(h0, .inr (10, [.ref fq, .ref sq, .ref gq, .ref nq, .ref dq, .ref pq, .int pl, .int bl, .int tb])), (fq, .inr (4, [.int mc_fq, .ref tE, .int 0])), (sq, .inr (4, [.int mc_sq, .ref tE, .int 0])), (gq, .inr (4, [.int mc_gq, .ref tE, .int 0]))] s.heap.size = A at hD hT ⊢
  have hA : ∀ q : Nat, s.heap.size ≤ q → A q := fun q h => by rw [← hAe]; exact Or.inr h
  have hS : va_S A s.heap s.heap [] := va_S.rf
  have hl := lv_entry ([.ref h0]) (n := 2) (Nat.le_of_ble_eq_true rfl)
  rw [lg_entry_eq]
  generalize (lg_sl ([.ref h0]) ++ List.replicate (2 - (lg_sl ([.ref h0])).length) Slot.unset).toArray = ls at hl ⊢
  have hl : lv_has ls 2 [(0, .ref h0)] := hl
  refine lv_aload_n hx hb dX5_write_0 rfl (lv_at hl 0 rfl) ?_
  refine lv_iconst (v := 0) hx hb dX5_write_1 (by decide) ?_
  refine va_put (D := (dC, dI)) (ci := 10) (v := .int 0) (ty := .int) (C := RX5) (T := TX5) (N := 9) hx hb hts u_c_write_X5 tyX5 tyX5_ok nmX5 hown hK hP hD hS 0 rfl rfl 6 (by decide) (hts (.fieldLink RX5 206 "HotelOfBells" "paperLength" "I") (List.mem_of_getElem? (i := 1) rfl)) (fun _ h9 => h9) rfl (by decide +kernel) rfl rfl (Nat.le_of_ble_eq_true rfl) dX5_write_2 (fun H locs hP hD hS => ?_)
  have hP : va_P (dC, dI) vwCl [(h0, .inr (10, [.ref fq, .ref sq, .ref gq, .ref nq, .ref dq, .ref pq, .int 0, .int bl, .int tb])), (fq, .inr (4, [.int mc_fq, .ref tE, .int 0])), (sq, .inr (4, [.int mc_sq, .ref tE, .int 0])), (gq, .inr (4, [.int mc_gq, .ref tE, .int 0]))] H := hP
  have hD : va_D A [(h0, .inr (10, [.ref fq, .ref sq, .ref gq, .ref nq, .ref dq, .ref pq, .int 0, .int bl, .int tb])), (fq, .inr (4, [.int mc_fq, .ref tE, .int 0])), (sq, .inr (4, [.int mc_sq, .ref tE, .int 0])), (gq, .inr (4, [.int mc_gq, .ref tE, .int 0]))] := hD
  refine lv_iconst (v := 0) hx hb dX5_write_5 (by decide) ?_
  refine lv_istore_n (lv' := [(1, .int 0), (0, .ref h0)]) hx hb dX5_write_6 rfl hl (by decide) rfl (fun ls hl => ?_)
  refine lv_iload_n hx hb dX5_write_7 rfl (lv_at hl 0 rfl) ?_
  refine lv_aload_n hx hb dX5_write_8 rfl (lv_at hl 1 rfl) ?_
  refine va_get (D := (dC, dI)) (ci := 10) (v := .ref fq) (C := RX5) (T := TX5) (N := 9) hx hb hts u_c_write_X5 hown hK hP 0 rfl rfl 0 (by decide) (hts (.fieldLink RX5 10 "HotelOfBells" "floors" "Ljava/util/ArrayList;") (List.mem_of_getElem? (i := 2) rfl)) (fun _ h9 => h9) rfl dX5_write_9 ?_
  have hPc := hP.sub (ws' := [(fq, .inr (4, [.int mc_fq, .ref tE, .int 0]))]) [1] rfl
  have hDc := hD.sub (ws' := [(fq, .inr (4, [.int mc_fq, .ref tE, .int 0]))]) [1] (by decide) rfl
  have hKc := hK.sub (tys' := []) [] rfl
  have hFc := va_free (wc := [(fq, .inr (4, [.int mc_fq, .ref tE, .int 0]))]) hD hS hA [1] rfl
  refine va_calli (va_runV (As := []) (rest := [.int 0]) ⟨hx, hb, hml, hown, hts⟩ (c_AL_size l hl9 dC dI tE fq mc_fq 0 (.ref tE) _ ) (cwV 0 hts (goodIn_app (goodIn_r _ [5, 6, 7, 8] (by rfl) (by decide +kernel)) gg_c_write_c_AL_size) rfl rfl rfl (by decide +kernel) ⟨Nat.le_of_ble_eq_true rfl, Nat.le_of_ble_eq_true rfl⟩) ⟨Pre0.blind, va_recv hKc hPc (ci := 4) (q0 := 0) rfl rfl, Pre0.give hPc hKc hDc hT hS hFc⟩ rfl rfl hl.1 rfl (lv_room (Nat.le_of_ble_eq_true rfl)) dX5_write_12 ⟨Nat.le_of_ble_eq_true rfl, Nat.le_of_ble_eq_true rfl⟩) hS (fun q _ h => hFc q h) hFc (fun r_1 u t H1 locs ht hvm hw hB hz1 hk1 hS => ?_)
  obtain ⟨hP1, hK1, hD1⟩ := hB
  rw [ht] at hP1
  have hK1 := va_K.moved hvm.symm hK1
  obtain ⟨hP, hD⟩ := va_join (wr := [(h0, .inr (10, [.ref fq, .ref sq, .ref gq, .ref nq, .ref dq, .ref pq, .int 0, .int bl, .int tb])), (sq, .inr (4, [.int mc_sq, .ref tE, .int 0])), (gq, .inr (4, [.int mc_gq, .ref tE, .int 0]))]) (w1 := [(fq, .inr (4, [.int mc_fq, .ref tE, .int 0]))]) hP hD [1] [0, 2, 3] rfl rfl (by decide) (by decide) hk1 hFc hP1 hD1
  generalize H1 = H at hP hS ⊢
  have hP : va_P (dC, dI) vwCl [(h0, .inr (10, [.ref fq, .ref sq, .ref gq, .ref nq, .ref dq, .ref pq, .int 0, .int bl, .int tb])), (sq, .inr (4, [.int mc_sq, .ref tE, .int 0])), (gq, .inr (4, [.int mc_gq, .ref tE, .int 0])), (fq, .inr (4, [.int mc_fq, .ref tE, .int 0]))] H := hP
  have hD : va_D A [(h0, .inr (10, [.ref fq, .ref sq, .ref gq, .ref nq, .ref dq, .ref pq, .int 0, .int bl, .int tb])), (sq, .inr (4, [.int mc_sq, .ref tE, .int 0])), (gq, .inr (4, [.int mc_gq, .ref tE, .int 0])), (fq, .inr (4, [.int mc_fq, .ref tE, .int 0]))] := hD
  refine W.widen (k := 0) (n := 0) (by omega) (by omega) ?_
  obtain rfl : r_1 = 0 := hw
  refine lv_icmp_ge (tgt := 29) hx hb dX5_write_15 (by decide) (fun _ => ?_) (fun c_2 => absurd (by decide) c_2)
  refine lv_iconst (v := 0) hx hb dX5_write_29 (by decide) ?_
  refine lv_istore_n (lv' := [(1, .int 0), (0, .ref h0)]) hx hb dX5_write_30 rfl hl (by decide) rfl (fun ls hl => ?_)
  refine lv_iload_n hx hb dX5_write_31 rfl (lv_at hl 0 rfl) ?_
  refine lv_aload_n hx hb dX5_write_32 rfl (lv_at hl 1 rfl) ?_
  refine va_get (D := (dC, dI)) (ci := 10) (v := .ref sq) (C := RX5) (T := TX5) (N := 9) hx hb hts u_c_write_X5 hown hK hP 0 rfl rfl 1 (by decide) (hts (.fieldLink RX5 16 "HotelOfBells" "shafts" "Ljava/util/ArrayList;") (List.mem_of_getElem? (i := 9) rfl)) (fun _ h9 => h9) rfl dX5_write_33 ?_
  have hPc := hP.sub (ws' := [(sq, .inr (4, [.int mc_sq, .ref tE, .int 0]))]) [1] rfl
  have hDc := hD.sub (ws' := [(sq, .inr (4, [.int mc_sq, .ref tE, .int 0]))]) [1] (by decide) rfl
  have hKc := hK.sub (tys' := []) [] rfl
  have hFc := va_free (wc := [(sq, .inr (4, [.int mc_sq, .ref tE, .int 0]))]) hD hS hA [1] rfl
  refine va_calli (va_runV (As := []) (rest := [.int 0]) ⟨hx, hb, hml, hown, hts⟩ (c_AL_size l hl9 dC dI tE sq mc_sq 0 (.ref tE) _ ) (cwV 0 hts (goodIn_app (goodIn_r _ [5, 6, 7, 8] (by rfl) (by decide +kernel)) gg_c_write_c_AL_size) rfl rfl rfl (by decide +kernel) ⟨Nat.le_of_ble_eq_true rfl, Nat.le_of_ble_eq_true rfl⟩) ⟨Pre0.blind, va_recv hKc hPc (ci := 4) (q0 := 0) rfl rfl, Pre0.give hPc hKc hDc hT hS hFc⟩ rfl rfl hl.1 rfl (lv_room (Nat.le_of_ble_eq_true rfl)) dX5_write_36 ⟨Nat.le_of_ble_eq_true rfl, Nat.le_of_ble_eq_true rfl⟩) hS (fun q _ h => hFc q h) hFc (fun r_3 u t H1 locs ht hvm hw hB hz1 hk1 hS => ?_)
  obtain ⟨hP1, hK1, hD1⟩ := hB
  rw [ht] at hP1
  have hK1 := va_K.moved hvm.symm hK1
  obtain ⟨hP, hD⟩ := va_join (wr := [(h0, .inr (10, [.ref fq, .ref sq, .ref gq, .ref nq, .ref dq, .ref pq, .int 0, .int bl, .int tb])), (gq, .inr (4, [.int mc_gq, .ref tE, .int 0])), (fq, .inr (4, [.int mc_fq, .ref tE, .int 0]))]) (w1 := [(sq, .inr (4, [.int mc_sq, .ref tE, .int 0]))]) hP hD [1] [0, 2, 3] rfl rfl (by decide) (by decide) hk1 hFc hP1 hD1
  generalize H1 = H at hP hS ⊢
  have hP : va_P (dC, dI) vwCl [(h0, .inr (10, [.ref fq, .ref sq, .ref gq, .ref nq, .ref dq, .ref pq, .int 0, .int bl, .int tb])), (gq, .inr (4, [.int mc_gq, .ref tE, .int 0])), (fq, .inr (4, [.int mc_fq, .ref tE, .int 0])), (sq, .inr (4, [.int mc_sq, .ref tE, .int 0]))] H := hP
  have hD : va_D A [(h0, .inr (10, [.ref fq, .ref sq, .ref gq, .ref nq, .ref dq, .ref pq, .int 0, .int bl, .int tb])), (gq, .inr (4, [.int mc_gq, .ref tE, .int 0])), (fq, .inr (4, [.int mc_fq, .ref tE, .int 0])), (sq, .inr (4, [.int mc_sq, .ref tE, .int 0]))] := hD
  refine W.widen (k := 0) (n := 0) (by omega) (by omega) ?_
  obtain rfl : r_3 = 0 := hw
  refine lv_icmp_ge (tgt := 53) hx hb dX5_write_39 (by decide) (fun _ => ?_) (fun c_4 => absurd (by decide) c_4)
  refine lv_iconst (v := 0) hx hb dX5_write_53 (by decide) ?_
  refine lv_istore_n (lv' := [(1, .int 0), (0, .ref h0)]) hx hb dX5_write_54 rfl hl (by decide) rfl (fun ls hl => ?_)
  refine lv_iload_n hx hb dX5_write_55 rfl (lv_at hl 0 rfl) ?_
  refine lv_aload_n hx hb dX5_write_56 rfl (lv_at hl 1 rfl) ?_
  refine va_get (D := (dC, dI)) (ci := 10) (v := .ref gq) (C := RX5) (T := TX5) (N := 9) hx hb hts u_c_write_X5 hown hK hP 0 rfl rfl 2 (by decide) (hts (.fieldLink RX5 19 "HotelOfBells" "guests" "Ljava/util/ArrayList;") (List.mem_of_getElem? (i := 10) rfl)) (fun _ h9 => h9) rfl dX5_write_57 ?_
  have hPc := hP.sub (ws' := [(gq, .inr (4, [.int mc_gq, .ref tE, .int 0]))]) [1] rfl
  have hDc := hD.sub (ws' := [(gq, .inr (4, [.int mc_gq, .ref tE, .int 0]))]) [1] (by decide) rfl
  have hKc := hK.sub (tys' := []) [] rfl
  have hFc := va_free (wc := [(gq, .inr (4, [.int mc_gq, .ref tE, .int 0]))]) hD hS hA [1] rfl
  refine va_calli (va_runV (As := []) (rest := [.int 0]) ⟨hx, hb, hml, hown, hts⟩ (c_AL_size l hl9 dC dI tE gq mc_gq 0 (.ref tE) _ ) (cwV 0 hts (goodIn_app (goodIn_r _ [5, 6, 7, 8] (by rfl) (by decide +kernel)) gg_c_write_c_AL_size) rfl rfl rfl (by decide +kernel) ⟨Nat.le_of_ble_eq_true rfl, Nat.le_of_ble_eq_true rfl⟩) ⟨Pre0.blind, va_recv hKc hPc (ci := 4) (q0 := 0) rfl rfl, Pre0.give hPc hKc hDc hT hS hFc⟩ rfl rfl hl.1 rfl (lv_room (Nat.le_of_ble_eq_true rfl)) dX5_write_60 ⟨Nat.le_of_ble_eq_true rfl, Nat.le_of_ble_eq_true rfl⟩) hS (fun q _ h => hFc q h) hFc (fun r_5 u t H1 locs ht hvm hw hB hz1 hk1 hS => ?_)
  obtain ⟨hP1, hK1, hD1⟩ := hB
  rw [ht] at hP1
  have hK1 := va_K.moved hvm.symm hK1
  obtain ⟨hP, hD⟩ := va_join (wr := [(h0, .inr (10, [.ref fq, .ref sq, .ref gq, .ref nq, .ref dq, .ref pq, .int 0, .int bl, .int tb])), (fq, .inr (4, [.int mc_fq, .ref tE, .int 0])), (sq, .inr (4, [.int mc_sq, .ref tE, .int 0]))]) (w1 := [(gq, .inr (4, [.int mc_gq, .ref tE, .int 0]))]) hP hD [1] [0, 2, 3] rfl rfl (by decide) (by decide) hk1 hFc hP1 hD1
  generalize H1 = H at hP hS ⊢
  have hP : va_P (dC, dI) vwCl [(h0, .inr (10, [.ref fq, .ref sq, .ref gq, .ref nq, .ref dq, .ref pq, .int 0, .int bl, .int tb])), (fq, .inr (4, [.int mc_fq, .ref tE, .int 0])), (sq, .inr (4, [.int mc_sq, .ref tE, .int 0])), (gq, .inr (4, [.int mc_gq, .ref tE, .int 0]))] H := hP
  have hD : va_D A [(h0, .inr (10, [.ref fq, .ref sq, .ref gq, .ref nq, .ref dq, .ref pq, .int 0, .int bl, .int tb])), (fq, .inr (4, [.int mc_fq, .ref tE, .int 0])), (sq, .inr (4, [.int mc_sq, .ref tE, .int 0])), (gq, .inr (4, [.int mc_gq, .ref tE, .int 0]))] := hD
  refine W.widen (k := 0) (n := 0) (by omega) (by omega) ?_
  obtain rfl : r_5 = 0 := hw
  refine lv_icmp_ge (tgt := 77) hx hb dX5_write_63 (by decide) (fun _ => ?_) (fun c_6 => absurd (by decide) c_6)
  refine lv_aload_n hx hb dX5_write_77 rfl (lv_at hl 1 rfl) ?_
  refine va_get (D := (dC, dI)) (ci := 10) (v := .int 0) (C := RX5) (T := TX5) (N := 9) hx hb hts u_c_write_X5 hown hK hP 0 rfl rfl 6 (by decide) (hts (.fieldLink RX5 206 "HotelOfBells" "paperLength" "I") (List.mem_of_getElem? (i := 1) rfl)) (fun _ h9 => h9) rfl dX5_write_78 ?_
  have hP9 := hP.sub (ws' := [(h0, .inr (10, [.ref fq, .ref sq, .ref gq, .ref nq, .ref dq, .ref pq, .int 0, .int bl, .int tb])), (fq, .inr (4, [.int mc_fq, .ref tE, .int 0])), (sq, .inr (4, [.int mc_sq, .ref tE, .int 0])), (gq, .inr (4, [.int mc_gq, .ref tE, .int 0]))]) [0, 1, 2, 3] rfl
  have hD9 := hD.sub (ws' := [(h0, .inr (10, [.ref fq, .ref sq, .ref gq, .ref nq, .ref dq, .ref pq, .int 0, .int bl, .int tb])), (fq, .inr (4, [.int mc_fq, .ref tE, .int 0])), (sq, .inr (4, [.int mc_sq, .ref tE, .int 0])), (gq, .inr (4, [.int mc_gq, .ref tE, .int 0]))]) [0, 1, 2, 3] (by decide) rfl
  have hK9 := hK.sub (tys' := []) [] rfl
  exact W.iret (v := 0) hx hb hr (fun t ht hW => ⟨⟨0, (), rfl, rfl, by rw [ht]; exact hP9, va_K.moved hW.alike hK9, hD9⟩, hS.F ht⟩) hS.2.2 dX5_write_81
def vh_c_byteAt : List Cond := .code yX5_byteAt cX5_byteAt 2 (some .int) :: ([Cond.classLink RX5 71 "java/lang/IndexOutOfBoundsException", Cond.initialized "java/lang/IndexOutOfBoundsException", Cond.fieldLink RX5 206 "HotelOfBells" "paperLength" "I"] ++ (wsX50 ++ []))
def v_c_byteAt : List Cond := vh_c_byteAt ++ (thrX)
theorem u_c_byteAt_X5 : ∀ w ∈ wsX50, w ∈ v_c_byteAt := fun _ h => List.mem_append_left _ (List.mem_cons_of_mem _ (List.mem_append_right _ (List.mem_append_left _ h)))
set_option maxHeartbeats 4000000 in
set_option maxRecDepth 100000 in
theorem c_byteAt (l : Launch) (hl9 : l.stackTraces = false) (dC : Nat → ClassId) (dI : Nat → Nat → Nat) (tE : Nat) (h0 : Nat) (fq : Nat) (sq : Nat) (gq : Nat) (nq : Nat) (dq : Nat) (pq : Nat) (p0 : Int32) (sz : Nat) : vx_Met l yX5_byteAt v_c_byteAt ({ frames := 6, cells := 1, slots := 6, locals := 90 }) (va_Pc [.ref h0, .int p0] (Pre0 dC dI tE sz [] [(h0, .inr (10, [.ref fq, .ref sq, .ref gq, .ref nq, .ref dq, .ref pq, .int 0, .int 0, .int 0]))])) (va_Qi (fun (r : Int32) (_ : Unit) => False) (fun _ t => Pst dC dI [] (va_A [(h0, .inr (10, [.ref fq, .ref sq, .ref gq, .ref nq, .ref dq, .ref pq, .int 0, .int 0, .int 0]))] sz) [(h0, .inr (10, [.ref fq, .ref sq, .ref gq, .ref nq, .ref dq, .ref pq, .int 0, .int 0, .int 0]))] t) (va_A [(h0, .inr (10, [.ref fq, .ref sq, .ref gq, .ref nq, .ref dq, .ref pq, .int 0, .int 0, .int 0]))] sz)) (vx_X (fun _ : Unit => True) (fun E _ t => E = "java/lang/IndexOutOfBoundsException" ∧ Pst dC dI [] (va_A [(h0, .inr (10, [.ref fq, .ref sq, .ref gq, .ref nq, .ref dq, .ref pq, .int 0, .int 0, .int 0]))] sz) [(h0, .inr (10, [.ref fq, .ref sq, .ref gq, .ref nq, .ref dq, .ref pq, .int 0, .int 0, .int 0]))] t) (va_A [(h0, .inr (10, [.ref fq, .ref sq, .ref gq, .ref nq, .ref dq, .ref pq, .int 0, .int 0, .int 0]))] sz)) 1 6 (va_A [(h0, .inr (10, [.ref fq, .ref sq, .ref gq, .ref nq, .ref dq, .ref pq, .int 0, .int 0, .int 0]))] sz) := by
  refine vx_ofW (cc := cX5_byteAt) (maxL := 2) (ret := (some .int)) (by decide) rfl ?_
  intro p e s m args below meth c s₁ B hml hEx hv
  obtain ⟨rfl, hsz, hP, hK, hD0, hT⟩ := hv
  have hx := B.exec
  have hb := B.bytes
  have hr := B.returns
  have hts := atoms_spec (ws := v_c_byteAt) B.pre
  have hown : s.vm.findClass RX5 = some m.cls := findClass_of_methodNamed B.named
  have hlocks := B.notSynchronized
  subst hsz
  have hD := hD0.self (sz := s.heap.size)
  generalize hAe : va_A [(h0, .inr (10, [.ref fq, .ref sq, .ref gq, .ref nq, .ref dq, .ref pq, .int 0, .int 0, .int 0]))] s.heap.size = A at hD hT ⊢
  have hA : ∀ q : Nat, s.heap.size ≤ q → A q := fun q h => by rw [← hAe]; exact Or.inr h
  have hS : va_S A s.heap s.heap [] := va_S.rf
  have hl := lv_entry ([.ref h0, .int p0]) (n := 2) (Nat.le_of_ble_eq_true rfl)
  rw [lg_entry_eq]
  generalize (lg_sl ([.ref h0, .int p0]) ++ List.replicate (2 - (lg_sl ([.ref h0, .int p0])).length) Slot.unset).toArray = ls at hl ⊢
  have hl : lv_has ls 2 [(0, .ref h0), (1, .int p0)] := hl
  refine lv_iload_n hx hb dX5_byteAt_0 rfl (lv_at hl 1 rfl) ?_
  refine lv_if_lt (tgt := 21) hx hb dX5_byteAt_1 (by decide) (fun c_1 => ?_) (fun c_1 => ?_)
  · have hP9 := hP.sub (ws' := [(h0, .inr (10, [.ref fq, .ref sq, .ref gq, .ref nq, .ref dq, .ref pq, .int 0, .int 0, .int 0]))]) [0] rfl
    have hD9 := hD.sub (ws' := [(h0, .inr (10, [.ref fq, .ref sq, .ref gq, .ref nq, .ref dq, .ref pq, .int 0, .int 0, .int 0]))]) [0] (by decide) rfl
    have hK9 := hK.sub (tys' := []) [] rfl
    obtain ⟨sa, hstr⟩ := hT.s267
    exact vx_throwSW (own := RX5) (cls := "java/lang/IndexOutOfBoundsException") (names := ["java/lang/RuntimeException", "java/lang/Exception"]) hx hb hl9 hown (by decide +kernel) (by decide +kernel) (hts (.classLink RX5 71 "java/lang/IndexOutOfBoundsException") (List.mem_of_getElem? (i := 1) rfl)) (hts (.initialized "java/lang/IndexOutOfBoundsException") (List.mem_of_getElem? (i := 2) rfl)) hstr (vx_hat (L := vx_atS RX5 75 "java/lang/IndexOutOfBoundsException" ["java/lang/RuntimeException", "java/lang/Exception"]) (B := [.castable "java/lang/IndexOutOfBoundsException" "java/lang/IndexOutOfBoundsException", .declares ⟨"java/lang/RuntimeException", "<init>", "(Ljava/lang/String;)V"⟩, .declares ⟨"java/lang/Exception", "<init>", "(Ljava/lang/String;)V"⟩, .declares ⟨"java/lang/Throwable", "<init>", "(Ljava/lang/String;)V"⟩]) (fun w hw => hts w (List.mem_append_right _ hw)) (by decide +kernel) (vx_c (va_Nw.use rfl hT.eX) (vx_c (va_Nw.use rfl hT.d1) (vx_c (va_Nw.use rfl hT.d2) (vx_c (va_Nw.use rfl hT.d3) (vx_n)))))) (by decide +kernel) hT.zU hT.zS hS (hl.1.trans hml.symm) dX5_byteAt_21 dX5_byteAt_24 dX5_byteAt_25 dX5_byteAt_28 dX5_byteAt_31 (fun x hx => (hEx x hx).elim) (Nat.le_of_ble_eq_true rfl) (Nat.le_of_ble_eq_true rfl) (Nat.le_of_ble_eq_true rfl) (Nat.le_of_ble_eq_true rfl) hlocks (fun t ha hsz hk => ⟨(), trivial, ⟨rfl, hP9.kept (fun k q hq => hk q.1 (hP9 k q hq).lt), va_K.moved ha hK9, hD9⟩, Nat.le_trans hS.1 hsz, fun q h1 h2 => (hk q (Nat.lt_of_lt_of_le h1 hS.1)).trans (hS.2.1 q h1 h2)⟩) hS.2.2 (Nat.le_of_ble_eq_true rfl) (Nat.le_of_ble_eq_true rfl)
  · refine lv_iload_n hx hb dX5_byteAt_4 rfl (lv_at hl 1 rfl) ?_
    refine lv_aload_n hx hb dX5_byteAt_5 rfl (lv_at hl 0 rfl) ?_
    refine va_get (D := (dC, dI)) (ci := 10) (v := .int 0) (C := RX5) (T := TX5) (N := 9) hx hb hts u_c_byteAt_X5 hown hK hP 0 rfl rfl 6 (by decide) (hts (.fieldLink RX5 206 "HotelOfBells" "paperLength" "I") (List.mem_of_getElem? (i := 3) rfl)) (fun _ h9 => h9) rfl dX5_byteAt_6 ?_
    refine lv_icmp_ge (tgt := 21) hx hb dX5_byteAt_9 (by decide) (fun _ => ?_) (fun c_2 => absurd (Int32.not_lt.mp (by assumption)) c_2)
    have hP9 := hP.sub (ws' := [(h0, .inr (10, [.ref fq, .ref sq, .ref gq, .ref nq, .ref dq, .ref pq, .int 0, .int 0, .int 0]))]) [0] rfl
    have hD9 := hD.sub (ws' := [(h0, .inr (10, [.ref fq, .ref sq, .ref gq, .ref nq, .ref dq, .ref pq, .int 0, .int 0, .int 0]))]) [0] (by decide) rfl
    have hK9 := hK.sub (tys' := []) [] rfl
    obtain ⟨sa, hstr⟩ := hT.s267
    exact vx_throwSW (own := RX5) (cls := "java/lang/IndexOutOfBoundsException") (names := ["java/lang/RuntimeException", "java/lang/Exception"]) hx hb hl9 hown (by decide +kernel) (by decide +kernel) (hts (.classLink RX5 71 "java/lang/IndexOutOfBoundsException") (List.mem_of_getElem? (i := 1) rfl)) (hts (.initialized "java/lang/IndexOutOfBoundsException") (List.mem_of_getElem? (i := 2) rfl)) hstr (vx_hat (L := vx_atS RX5 75 "java/lang/IndexOutOfBoundsException" ["java/lang/RuntimeException", "java/lang/Exception"]) (B := [.castable "java/lang/IndexOutOfBoundsException" "java/lang/IndexOutOfBoundsException", .declares ⟨"java/lang/RuntimeException", "<init>", "(Ljava/lang/String;)V"⟩, .declares ⟨"java/lang/Exception", "<init>", "(Ljava/lang/String;)V"⟩, .declares ⟨"java/lang/Throwable", "<init>", "(Ljava/lang/String;)V"⟩]) (fun w hw => hts w (List.mem_append_right _ hw)) (by decide +kernel) (vx_c (va_Nw.use rfl hT.eX) (vx_c (va_Nw.use rfl hT.d1) (vx_c (va_Nw.use rfl hT.d2) (vx_c (va_Nw.use rfl hT.d3) (vx_n)))))) (by decide +kernel) hT.zU hT.zS hS (hl.1.trans hml.symm) dX5_byteAt_21 dX5_byteAt_24 dX5_byteAt_25 dX5_byteAt_28 dX5_byteAt_31 (fun x hx => (hEx x hx).elim) (Nat.le_of_ble_eq_true rfl) (Nat.le_of_ble_eq_true rfl) (Nat.le_of_ble_eq_true rfl) (Nat.le_of_ble_eq_true rfl) hlocks (fun t ha hsz hk => ⟨(), trivial, ⟨rfl, hP9.kept (fun k q hq => hk q.1 (hP9 k q hq).lt), va_K.moved ha hK9, hD9⟩, Nat.le_trans hS.1 hsz, fun q h1 h2 => (hk q (Nat.lt_of_lt_of_le h1 hS.1)).trans (hS.2.1 q h1 h2)⟩) hS.2.2 (Nat.le_of_ble_eq_true rfl) (Nat.le_of_ble_eq_true rfl)
def v_c_home : List Cond := .code yX5_home cX5_home 2 (some .double) :: ([Cond.fieldLink RX5 19 "HotelOfBells" "guests" "Ljava/util/ArrayList;", Cond.code yJx4a65c_size_8abf5 cJx4a65c_size_8abf5 1 (some .int), Cond.fieldLink RJx4a65c 48 "java/util/ArrayList" "size" "I", Cond.methodLink RX5 49 yJx4a65c_size_8abf5, Cond.instanceMethod yJx4a65c_size_8abf5, Cond.selects RJx4a65c yJx4a65c_size_8abf5 yJx4a65c_size_8abf5, Cond.initialized RJx4a65c] ++ (wsX50 ++ (wsJx4a65c0 ++ [])))
theorem u_c_home_X5 : ∀ w ∈ wsX50, w ∈ v_c_home := fun _ h => List.mem_cons_of_mem _ (List.mem_append_right _ (List.mem_append_left _ h))
theorem u_c_home_Jx4a65c : ∀ w ∈ wsJx4a65c0, w ∈ v_c_home := fun _ h => List.mem_cons_of_mem _ (List.mem_append_right _ (List.mem_append_right _ (List.mem_append_left _ h)))
theorem gg_c_home_c_AL_size : GoodIn v_c_home v_c_AL_size := goodIn_r _ [2, 3, 17, 18, 19] (by rfl) (by decide +kernel)
set_option maxHeartbeats 4000000 in
set_option maxRecDepth 100000 in
theorem c_home (l : Launch) (hl9 : l.stackTraces = false) (dC : Nat → ClassId) (dI : Nat → Nat → Nat) (tE : Nat) (h0 : Nat) (fq : Nat) (sq : Nat) (gq : Nat) (nq : Nat) (dq : Nat) (pq : Nat) (pl : Int32) (bl : Int32) (tb : Int32) (mc_gq : Int32) (sz : Nat) : Met l yX5_home v_c_home ({ frames := 1, cells := 0, slots := 0, locals := 20 }) (va_Pc [.ref h0] (Pre0 dC dI tE sz [] [(h0, .inr (10, [.ref fq, .ref sq, .ref gq, .ref nq, .ref dq, .ref pq, .int pl, .int bl, .int tb])), (gq, .inr (4, [.int mc_gq, .ref tE, .int 0]))])) (va_Qd (fun (r : UInt64) (_ : Unit) => r = FP.dconst1) (fun _ t => Pst dC dI [] (va_A [(h0, .inr (10, [.ref fq, .ref sq, .ref gq, .ref nq, .ref dq, .ref pq, .int pl, .int bl, .int tb])), (gq, .inr (4, [.int mc_gq, .ref tE, .int 0]))] sz) [(h0, .inr (10, [.ref fq, .ref sq, .ref gq, .ref nq, .ref dq, .ref pq, .int pl, .int bl, .int tb])), (gq, .inr (4, [.int mc_gq, .ref tE, .int 0]))] t) (va_A [(h0, .inr (10, [.ref fq, .ref sq, .ref gq, .ref nq, .ref dq, .ref pq, .int pl, .int bl, .int tb])), (gq, .inr (4, [.int mc_gq, .ref tE, .int 0]))] sz)) 0 0 (va_A [(h0, .inr (10, [.ref fq, .ref sq, .ref gq, .ref nq, .ref dq, .ref pq, .int pl, .int bl, .int tb])), (gq, .inr (4, [.int mc_gq, .ref tE, .int 0]))] sz) := by
  refine Met.ofW (cc := cX5_home) (maxL := 2) (ret := (some .double)) (by decide) rfl ?_
  intro p e s m args below meth c s₁ B hml hv
  obtain ⟨rfl, hsz, hP, hK, hD0, hT⟩ := hv
  have hx := B.exec
  have hb := B.bytes
  have hr := B.returns
  have hts := atoms_spec (ws := v_c_home) B.pre
  have hown : s.vm.findClass RX5 = some m.cls := findClass_of_methodNamed B.named
  have hlocks := B.notSynchronized
  subst hsz
  have hD := hD0.self (sz := s.heap.size)
  generalize hAe : va_A [(h0, .inr (10, [.ref fq, .ref sq, .ref gq, .ref nq, .ref dq, .ref pq, .int pl, .int bl, .int tb])), (gq, .inr (4, [.int mc_gq, .ref tE, .int 0]))] s.heap.size = A at hD hT ⊢
  have hA : ∀ q : Nat, s.heap.size ≤ q → A q := fun q h => by rw [← hAe]; exact Or.inr h
  have hS : va_S A s.heap s.heap [] := va_S.rf
  have hl := lv_entry ([.ref h0]) (n := 2) (Nat.le_of_ble_eq_true rfl)
  rw [lg_entry_eq]
  generalize (lg_sl ([.ref h0]) ++ List.replicate (2 - (lg_sl ([.ref h0])).length) Slot.unset).toArray = ls at hl ⊢
  have hl : lv_has ls 2 [(0, .ref h0)] := hl
  refine lv_aload_n hx hb dX5_home_0 rfl (lv_at hl 0 rfl) ?_
  refine va_get (D := (dC, dI)) (ci := 10) (v := .ref gq) (C := RX5) (T := TX5) (N := 9) hx hb hts u_c_home_X5 hown hK hP 0 rfl rfl 2 (by decide) (hts (.fieldLink RX5 19 "HotelOfBells" "guests" "Ljava/util/ArrayList;") (List.mem_of_getElem? (i := 1) rfl)) (fun _ h9 => h9) rfl dX5_home_1 ?_
  have hPc := hP.sub (ws' := [(gq, .inr (4, [.int mc_gq, .ref tE, .int 0]))]) [1] rfl
  have hDc := hD.sub (ws' := [(gq, .inr (4, [.int mc_gq, .ref tE, .int 0]))]) [1] (by decide) rfl
  have hKc := hK.sub (tys' := []) [] rfl
  have hFc := va_free (wc := [(gq, .inr (4, [.int mc_gq, .ref tE, .int 0]))]) hD hS hA [1] rfl
  refine va_calli (va_runV (As := []) (rest := []) ⟨hx, hb, hml, hown, hts⟩ (c_AL_size l hl9 dC dI tE gq mc_gq 0 (.ref tE) _ ) (cwV 0 hts (goodIn_app (goodIn_r _ [4, 5, 6, 7] (by rfl) (by decide +kernel)) gg_c_home_c_AL_size) rfl rfl rfl (by decide +kernel) ⟨Nat.le_of_ble_eq_true rfl, Nat.le_of_ble_eq_true rfl⟩) ⟨Pre0.blind, va_recv hKc hPc (ci := 4) (q0 := 0) rfl rfl, Pre0.give hPc hKc hDc hT hS hFc⟩ rfl rfl hl.1 rfl (lv_room (Nat.le_of_ble_eq_true rfl)) dX5_home_4 ⟨Nat.le_of_ble_eq_true rfl, Nat.le_of_ble_eq_true rfl⟩) hS (fun q _ h => hFc q h) hFc (fun r_1 u t H1 locs ht hvm hw hB hz1 hk1 hS => ?_)
  obtain ⟨hP1, hK1, hD1⟩ := hB
  rw [ht] at hP1
  have hK1 := va_K.moved hvm.symm hK1
  obtain ⟨hP, hD⟩ := va_join (wr := [(h0, .inr (10, [.ref fq, .ref sq, .ref gq, .ref nq, .ref dq, .ref pq, .int pl, .int bl, .int tb]))]) (w1 := [(gq, .inr (4, [.int mc_gq, .ref tE, .int 0]))]) hP hD [1] [0] rfl rfl (by decide) (by decide) hk1 hFc hP1 hD1
  generalize H1 = H at hP hS ⊢
  have hP : va_P (dC, dI) vwCl [(h0, .inr (10, [.ref fq, .ref sq, .ref gq, .ref nq, .ref dq, .ref pq, .int pl, .int bl, .int tb])), (gq, .inr (4, [.int mc_gq, .ref tE, .int 0]))] H := hP
  have hD : va_D A [(h0, .inr (10, [.ref fq, .ref sq, .ref gq, .ref nq, .ref dq, .ref pq, .int pl, .int bl, .int tb])), (gq, .inr (4, [.int mc_gq, .ref tE, .int 0]))] := hD
  refine W.widen (k := 0) (n := 0) (by omega) (by omega) ?_
  obtain rfl : r_1 = 0 := hw
  refine lv_istore_n (lv' := [(1, .int 0), (0, .ref h0)]) hx hb dX5_home_7 rfl hl (by decide) rfl (fun ls hl => ?_)
  refine lv_iload_n hx hb dX5_home_8 rfl (lv_at hl 0 rfl) ?_
  refine lv_if_le (tgt := 23) hx hb dX5_home_9 (by decide) (fun _ => ?_) (fun c_2 => absurd (by decide) c_2)
  refine lv_dconst1 hx hb dX5_home_23 ?_
  have hP9 := hP.sub (ws' := [(h0, .inr (10, [.ref fq, .ref sq, .ref gq, .ref nq, .ref dq, .ref pq, .int pl, .int bl, .int tb])), (gq, .inr (4, [.int mc_gq, .ref tE, .int 0]))]) [0, 1] rfl
  have hD9 := hD.sub (ws' := [(h0, .inr (10, [.ref fq, .ref sq, .ref gq, .ref nq, .ref dq, .ref pq, .int pl, .int bl, .int tb])), (gq, .inr (4, [.int mc_gq, .ref tE, .int 0]))]) [0, 1] (by decide) rfl
  have hK9 := hK.sub (tys' := []) [] rfl
  exact W.dret (v := FP.dconst1) hx hb hr (fun t ht hW => ⟨⟨FP.dconst1, (), rfl, rfl, by rw [ht]; exact hP9, va_K.moved hW.alike hK9, hD9⟩, hS.F ht⟩) hS.2.2 dX5_home_24
def v_c_digest : List Cond := .code yX5_digest cX5_digest 5 (some .long) :: ([Cond.constantLong RX5 269 (541), Cond.constantLong RX5 271 (31), Cond.code yX5_count cX5_count 2 (some .int), Cond.fieldLink RX5 10 "HotelOfBells" "floors" "Ljava/util/ArrayList;", Cond.code yJx4a65c_size_8abf5 cJx4a65c_size_8abf5 1 (some .int), Cond.fieldLink RJx4a65c 48 "java/util/ArrayList" "size" "I", Cond.methodLink RX5 49 yJx4a65c_size_8abf5, Cond.instanceMethod yJx4a65c_size_8abf5, Cond.selects RJx4a65c yJx4a65c_size_8abf5 yJx4a65c_size_8abf5, Cond.initialized RJx4a65c, Cond.methodLink RX5 273 yX5_count, Cond.instanceMethod yX5_count, Cond.selects RX5 yX5_count yX5_count, Cond.initialized RX5, Cond.fieldLink RX5 16 "HotelOfBells" "shafts" "Ljava/util/ArrayList;", Cond.fieldLink RX5 19 "HotelOfBells" "guests" "Ljava/util/ArrayList;", Cond.code yX5_guestsAtHome cX5_guestsAtHome 3 (some .int), Cond.methodLink RX5 194 yX5_guestsAtHome, Cond.instanceMethod yX5_guestsAtHome, Cond.selects RX5 yX5_guestsAtHome yX5_guestsAtHome, Cond.code yX5_guestsRiding cX5_guestsRiding 1 (some .int), Cond.code yX5_guestsIn cX5_guestsIn 4 (some .int), Cond.methodLink RX5 176 yX5_guestsIn, Cond.instanceMethod yX5_guestsIn, Cond.selects RX5 yX5_guestsIn yX5_guestsIn, Cond.methodLink RX5 197 yX5_guestsRiding, Cond.instanceMethod yX5_guestsRiding, Cond.selects RX5 yX5_guestsRiding yX5_guestsRiding, Cond.fieldLink RX5 200 "HotelOfBells" "bells" "I", Cond.fieldLink RX5 203 "HotelOfBells" "turnsByBells" "I", Cond.fieldLink RX5 206 "HotelOfBells" "paperLength" "I"] ++ (wsX50 ++ (wsJx4a65c0 ++ [])))
theorem u_c_digest_X5 : ∀ w ∈ wsX50, w ∈ v_c_digest := fun _ h => List.mem_cons_of_mem _ (List.mem_append_right _ (List.mem_append_left _ h))
theorem u_c_digest_Jx4a65c : ∀ w ∈ wsJx4a65c0, w ∈ v_c_digest := fun _ h => List.mem_cons_of_mem _ (List.mem_append_right _ (List.mem_append_right _ (List.mem_append_left _ h)))
theorem gg_c_digest_c_count_0 : GoodIn v_c_digest v_c_count_0 := goodIn_r _ [3, 4, 5, 6, 7, 8, 9, 10, 32, 33, 34, 35, 36, 37, 38, 39, 40, 41, 42, 43] (by rfl) (by decide +kernel)
theorem gg_c_digest_c_count_1 : GoodIn v_c_digest v_c_count_1 := goodIn_r _ [3, 15, 5, 6, 7, 8, 9, 10, 32, 33, 34, 35, 36, 37, 38, 39, 40, 41, 42, 43] (by rfl) (by decide +kernel)
theorem gg_c_digest_c_count_2 : GoodIn v_c_digest v_c_count_2 := goodIn_r _ [3, 16, 5, 6, 7, 8, 9, 10, 32, 33, 34, 35, 36, 37, 38, 39, 40, 41, 42, 43] (by rfl) (by decide +kernel)
theorem gg_c_digest_c_count_3 : GoodIn v_c_digest v_c_count_3 := goodIn_r _ [3, 17, 16, 5, 6, 7, 8, 9, 10, 18, 19, 20, 14, 32, 33, 34, 35, 36, 37, 38, 39, 40, 41, 42, 43] (by rfl) (by decide +kernel)
theorem gg_c_digest_c_count_4 : GoodIn v_c_digest v_c_count_4 := goodIn_r _ [3, 21, 16, 5, 6, 7, 8, 9, 10, 22, 23, 24, 25, 14, 26, 27, 28, 32, 33, 34, 35, 36, 37, 38, 39, 40, 41, 42, 43] (by rfl) (by decide +kernel)
theorem gg_c_digest_c_count_5 : GoodIn v_c_digest v_c_count_5 := goodIn_r _ [3, 29, 32, 33, 34, 35, 36, 37, 38, 39, 40] (by rfl) (by decide +kernel)
theorem gg_c_digest_c_count_6 : GoodIn v_c_digest v_c_count_6 := goodIn_r _ [3, 30, 32, 33, 34, 35, 36, 37, 38, 39, 40] (by rfl) (by decide +kernel)
theorem gg_c_digest_c_count_7 : GoodIn v_c_digest v_c_count_7 := goodIn_r _ [3, 31, 32, 33, 34, 35, 36, 37, 38, 39, 40] (by rfl) (by decide +kernel)
theorem gg_c_digest_c_AL_size : GoodIn v_c_digest v_c_AL_size := goodIn_r _ [5, 6, 41, 42, 43] (by rfl) (by decide +kernel)
set_option maxHeartbeats 4000000 in
set_option maxRecDepth 100000 in
theorem c_digest (l : Launch) (hl9 : l.stackTraces = false) (dC : Nat → ClassId) (dI : Nat → Nat → Nat) (tE : Nat) (h0 : Nat) (fq : Nat) (sq : Nat) (gq : Nat) (nq : Nat) (dq : Nat) (pq : Nat) (mc_fq : Int32) (mc_sq : Int32) (mc_gq : Int32) (sz : Nat) : Met l yX5_digest v_c_digest ({ frames := 4, cells := 0, slots := 0, locals := 84 }) (va_Pc [.ref h0] (Pre0 dC dI tE sz [] [(h0, .inr (10, [.ref fq, .ref sq, .ref gq, .ref nq, .ref dq, .ref pq, .int 0, .int 0, .int 0])), (fq, .inr (4, [.int mc_fq, .ref tE, .int 0])), (sq, .inr (4, [.int mc_sq, .ref tE, .int 0])), (gq, .inr (4, [.int mc_gq, .ref tE, .int 0]))])) (va_Ql (fun (r : Int64) (_ : Unit) => r = (((((((541 * 31 + 0) * 31 + 0) * 31 + 0) * 31 + 0) * 31 + 0) * 31 + 0) * 31 + 0) * 31 + 0) (fun _ t => Pst dC dI [] (va_A [(h0, .inr (10, [.ref fq, .ref sq, .ref gq, .ref nq, .ref dq, .ref pq, .int 0, .int 0, .int 0])), (fq, .inr (4, [.int mc_fq, .ref tE, .int 0])), (sq, .inr (4, [.int mc_sq, .ref tE, .int 0])), (gq, .inr (4, [.int mc_gq, .ref tE, .int 0]))] sz) [(h0, .inr (10, [.ref fq, .ref sq, .ref gq, .ref nq, .ref dq, .ref pq, .int 0, .int 0, .int 0])), (fq, .inr (4, [.int mc_fq, .ref tE, .int 0])), (sq, .inr (4, [.int mc_sq, .ref tE, .int 0])), (gq, .inr (4, [.int mc_gq, .ref tE, .int 0]))] t) (va_A [(h0, .inr (10, [.ref fq, .ref sq, .ref gq, .ref nq, .ref dq, .ref pq, .int 0, .int 0, .int 0])), (fq, .inr (4, [.int mc_fq, .ref tE, .int 0])), (sq, .inr (4, [.int mc_sq, .ref tE, .int 0])), (gq, .inr (4, [.int mc_gq, .ref tE, .int 0]))] sz)) 0 0 (va_A [(h0, .inr (10, [.ref fq, .ref sq, .ref gq, .ref nq, .ref dq, .ref pq, .int 0, .int 0, .int 0])), (fq, .inr (4, [.int mc_fq, .ref tE, .int 0])), (sq, .inr (4, [.int mc_sq, .ref tE, .int 0])), (gq, .inr (4, [.int mc_gq, .ref tE, .int 0]))] sz) := by
  refine Met.ofW (cc := cX5_digest) (maxL := 5) (ret := (some .long)) (by decide) rfl ?_
  intro p e s m args below meth c s₁ B hml hv
  obtain ⟨rfl, hsz, hP, hK, hD0, hT⟩ := hv
  have hx := B.exec
  have hb := B.bytes
  have hr := B.returns
  have hts := atoms_spec (ws := v_c_digest) B.pre
  have hown : s.vm.findClass RX5 = some m.cls := findClass_of_methodNamed B.named
  have hlocks := B.notSynchronized
  subst hsz
  have hD := hD0.self (sz := s.heap.size)
  generalize hAe : va_A [(h0, .inr (10, [.ref fq, .ref sq, .ref gq, .ref nq, .ref dq, .ref pq, .int 0, .int 0, .int 0])), (fq, .inr (4, [.int mc_fq, .ref tE, .int 0])), (sq, .inr (4, [.int mc_sq, .ref tE, .int 0])), (gq, .inr (4, [.int mc_gq, .ref tE, .int 0]))] s.heap.size = A at hD hT ⊢
  have hA : ∀ q : Nat, s.heap.size ≤ q → A q := fun q h => by rw [← hAe]; exact Or.inr h
  have hS : va_S A s.heap s.heap [] := va_S.rf
  have hl := lv_entry ([.ref h0]) (n := 5) (Nat.le_of_ble_eq_true rfl)
  rw [lg_entry_eq]
  generalize (lg_sl ([.ref h0]) ++ List.replicate (5 - (lg_sl ([.ref h0])).length) Slot.unset).toArray = ls at hl ⊢
  have hl : lv_has ls 5 [(0, .ref h0)] := hl
  refine lv_ldc2 (v := 541) hx hb hown (hts (.constantLong RX5 269 (541)) (List.mem_of_getElem? (i := 1) rfl)) dX5_digest_0 ?_
  refine lv_lstore_n (lv' := [(1, .long 541), (0, .ref h0)]) hx hb dX5_digest_3 rfl hl (by decide) rfl (fun ls hl => ?_)
  refine lv_iconst (v := 0) hx hb dX5_digest_4 (by decide) ?_
  refine lv_istore_n (lv' := [(3, .int 0), (1, .long 541), (0, .ref h0)]) hx hb dX5_digest_5 rfl hl (by decide) rfl (fun ls hl => ?_)
  refine lv_iload_n hx hb dX5_digest_6 rfl (lv_at hl 0 rfl) ?_
  refine lv_bipush (v := 8) hx hb dX5_digest_7 (by decide) ?_
  refine lv_icmp_ge (tgt := 31) hx hb dX5_digest_9 (by decide) (fun c_1 => absurd c_1 (by decide)) (fun _ => ?_)
  refine lv_lload_n hx hb dX5_digest_12 rfl (lv_at hl 1 rfl) ?_
  refine lv_ldc2 (v := 31) hx hb hown (hts (.constantLong RX5 271 (31)) (List.mem_of_getElem? (i := 2) rfl)) dX5_digest_13 ?_
  refine lv_lmul hx hb dX5_digest_16 ?_
  refine lv_aload_n hx hb dX5_digest_17 rfl (lv_at hl 2 rfl) ?_
  refine lv_iload_n hx hb dX5_digest_18 rfl (lv_at hl 0 rfl) ?_
  have hPc := hP.sub (ws' := [(h0, .inr (10, [.ref fq, .ref sq, .ref gq, .ref nq, .ref dq, .ref pq, .int 0, .int 0, .int 0])), (fq, .inr (4, [.int mc_fq, .ref tE, .int 0]))]) [0, 1] rfl
  have hDc := hD.sub (ws' := [(h0, .inr (10, [.ref fq, .ref sq, .ref gq, .ref nq, .ref dq, .ref pq, .int 0, .int 0, .int 0])), (fq, .inr (4, [.int mc_fq, .ref tE, .int 0]))]) [0, 1] (by decide) rfl
  have hKc := hK.sub (tys' := []) [] rfl
  have hFc := va_free (wc := [(h0, .inr (10, [.ref fq, .ref sq, .ref gq, .ref nq, .ref dq, .ref pq, .int 0, .int 0, .int 0])), (fq, .inr (4, [.int mc_fq, .ref tE, .int 0]))]) hD hS hA [0, 1] rfl
  refine va_calli (va_runV (As := [.int 0]) (rest := [.long (541 * 31)]) ⟨hx, hb, hml, hown, hts⟩ (c_count_0 l hl9 dC dI tE h0 fq sq gq nq dq pq mc_fq _ ) (cwV 1 hts (goodIn_app (goodIn_r _ [11, 12, 13, 14] (by rfl) (by decide +kernel)) gg_c_digest_c_count_0) rfl rfl rfl (by decide +kernel) ⟨Nat.le_of_ble_eq_true rfl, Nat.le_of_ble_eq_true rfl⟩) ⟨Pre0.blind, va_recv hKc hPc (ci := 10) (q0 := 0) rfl rfl, Pre0.give hPc hKc hDc hT hS hFc⟩ rfl rfl hl.1 rfl (lv_room (Nat.le_of_ble_eq_true rfl)) dX5_digest_19 ⟨Nat.le_of_ble_eq_true rfl, Nat.le_of_ble_eq_true rfl⟩) hS (fun q _ h => hFc q h) hFc (fun r_2 u t H1 locs ht hvm hw hB hz1 hk1 hS => ?_)
  obtain ⟨hP1, hK1, hD1⟩ := hB
  rw [ht] at hP1
  have hK1 := va_K.moved hvm.symm hK1
  obtain ⟨hP, hD⟩ := va_join (wr := [(sq, .inr (4, [.int mc_sq, .ref tE, .int 0])), (gq, .inr (4, [.int mc_gq, .ref tE, .int 0]))]) (w1 := [(h0, .inr (10, [.ref fq, .ref sq, .ref gq, .ref nq, .ref dq, .ref pq, .int 0, .int 0, .int 0])), (fq, .inr (4, [.int mc_fq, .ref tE, .int 0]))]) hP hD [0, 1] [2, 3] rfl rfl (by decide) (by decide) hk1 hFc hP1 hD1
  generalize H1 = H at hP hS ⊢
  have hP : va_P (dC, dI) vwCl [(sq, .inr (4, [.int mc_sq, .ref tE, .int 0])), (gq, .inr (4, [.int mc_gq, .ref tE, .int 0])), (h0, .inr (10, [.ref fq, .ref sq, .ref gq, .ref nq, .ref dq, .ref pq, .int 0, .int 0, .int 0])), (fq, .inr (4, [.int mc_fq, .ref tE, .int 0]))] H := hP
  have hD : va_D A [(sq, .inr (4, [.int mc_sq, .ref tE, .int 0])), (gq, .inr (4, [.int mc_gq, .ref tE, .int 0])), (h0, .inr (10, [.ref fq, .ref sq, .ref gq, .ref nq, .ref dq, .ref pq, .int 0, .int 0, .int 0])), (fq, .inr (4, [.int mc_fq, .ref tE, .int 0]))] := hD
  refine W.widen (k := 0) (n := 0) (by omega) (by omega) ?_
  obtain rfl : r_2 = 0 := hw
  refine lv_i2l (v := 0) hx hb dX5_digest_22 (by decide) ?_
  refine lv_ladd hx hb dX5_digest_23 ?_
  refine lv_lstore_n (lv' := [(1, .long ((541 * 31) + 0)), (3, .int 0), (0, .ref h0)]) hx hb dX5_digest_24 rfl hl (by decide) rfl (fun ls hl => ?_)
  refine lv_iinc (v := 1) (lv' := [(3, .int 1), (1, .long ((541 * 31) + 0)), (0, .ref h0)]) hx hb dX5_digest_25 hl (k := 1) rfl (by decide) (by decide) rfl (fun ls hl => ?_)
  refine lv_goto (tgt := 6) hx hb dX5_digest_28 (by decide) ?_
  refine lv_iload_n hx hb dX5_digest_6 rfl (lv_at hl 0 rfl) ?_
  refine lv_bipush (v := 8) hx hb dX5_digest_7 (by decide) ?_
  refine lv_icmp_ge (tgt := 31) hx hb dX5_digest_9 (by decide) (fun c_3 => absurd c_3 (by decide)) (fun _ => ?_)
  refine lv_lload_n hx hb dX5_digest_12 rfl (lv_at hl 1 rfl) ?_
  refine lv_ldc2 (v := 31) hx hb hown (hts (.constantLong RX5 271 (31)) (List.mem_of_getElem? (i := 2) rfl)) dX5_digest_13 ?_
  refine lv_lmul hx hb dX5_digest_16 ?_
  refine lv_aload_n hx hb dX5_digest_17 rfl (lv_at hl 2 rfl) ?_
  refine lv_iload_n hx hb dX5_digest_18 rfl (lv_at hl 0 rfl) ?_
  have hPc := hP.sub (ws' := [(h0, .inr (10, [.ref fq, .ref sq, .ref gq, .ref nq, .ref dq, .ref pq, .int 0, .int 0, .int 0])), (sq, .inr (4, [.int mc_sq, .ref tE, .int 0]))]) [2, 0] rfl
  have hDc := hD.sub (ws' := [(h0, .inr (10, [.ref fq, .ref sq, .ref gq, .ref nq, .ref dq, .ref pq, .int 0, .int 0, .int 0])), (sq, .inr (4, [.int mc_sq, .ref tE, .int 0]))]) [2, 0] (by decide) rfl
  have hKc := hK.sub (tys' := []) [] rfl
  have hFc := va_free (wc := [(h0, .inr (10, [.ref fq, .ref sq, .ref gq, .ref nq, .ref dq, .ref pq, .int 0, .int 0, .int 0])), (sq, .inr (4, [.int mc_sq, .ref tE, .int 0]))]) hD hS hA [2, 0] rfl
  refine va_calli (va_runV (As := [.int 1]) (rest := [.long (((541 * 31) + 0) * 31)]) ⟨hx, hb, hml, hown, hts⟩ (c_count_1 l hl9 dC dI tE h0 fq sq gq nq dq pq mc_sq _ ) (cwV 1 hts (goodIn_app (goodIn_r _ [11, 12, 13, 14] (by rfl) (by decide +kernel)) gg_c_digest_c_count_1) rfl rfl rfl (by decide +kernel) ⟨Nat.le_of_ble_eq_true rfl, Nat.le_of_ble_eq_true rfl⟩) ⟨Pre0.blind, va_recv hKc hPc (ci := 10) (q0 := 0) rfl rfl, Pre0.give hPc hKc hDc hT hS hFc⟩ rfl rfl hl.1 rfl (lv_room (Nat.le_of_ble_eq_true rfl)) dX5_digest_19 ⟨Nat.le_of_ble_eq_true rfl, Nat.le_of_ble_eq_true rfl⟩) hS (fun q _ h => hFc q h) hFc (fun r_4 u t H1 locs ht hvm hw hB hz1 hk1 hS => ?_)
  obtain ⟨hP1, hK1, hD1⟩ := hB
  rw [ht] at hP1
  have hK1 := va_K.moved hvm.symm hK1
  obtain ⟨hP, hD⟩ := va_join (wr := [(gq, .inr (4, [.int mc_gq, .ref tE, .int 0])), (fq, .inr (4, [.int mc_fq, .ref tE, .int 0]))]) (w1 := [(h0, .inr (10, [.ref fq, .ref sq, .ref gq, .ref nq, .ref dq, .ref pq, .int 0, .int 0, .int 0])), (sq, .inr (4, [.int mc_sq, .ref tE, .int 0]))]) hP hD [2, 0] [1, 3] rfl rfl (by decide) (by decide) hk1 hFc hP1 hD1
  generalize H1 = H at hP hS ⊢
  have hP : va_P (dC, dI) vwCl [(gq, .inr (4, [.int mc_gq, .ref tE, .int 0])), (fq, .inr (4, [.int mc_fq, .ref tE, .int 0])), (h0, .inr (10, [.ref fq, .ref sq, .ref gq, .ref nq, .ref dq, .ref pq, .int 0, .int 0, .int 0])), (sq, .inr (4, [.int mc_sq, .ref tE, .int 0]))] H := hP
  have hD : va_D A [(gq, .inr (4, [.int mc_gq, .ref tE, .int 0])), (fq, .inr (4, [.int mc_fq, .ref tE, .int 0])), (h0, .inr (10, [.ref fq, .ref sq, .ref gq, .ref nq, .ref dq, .ref pq, .int 0, .int 0, .int 0])), (sq, .inr (4, [.int mc_sq, .ref tE, .int 0]))] := hD
  refine W.widen (k := 0) (n := 0) (by omega) (by omega) ?_
  obtain rfl : r_4 = 0 := hw
  refine lv_i2l (v := 0) hx hb dX5_digest_22 (by decide) ?_
  refine lv_ladd hx hb dX5_digest_23 ?_
  refine lv_lstore_n (lv' := [(1, .long ((((541 * 31) + 0) * 31) + 0)), (3, .int 1), (0, .ref h0)]) hx hb dX5_digest_24 rfl hl (by decide) rfl (fun ls hl => ?_)
  refine lv_iinc (v := 2) (lv' := [(3, .int 2), (1, .long ((((541 * 31) + 0) * 31) + 0)), (0, .ref h0)]) hx hb dX5_digest_25 hl (k := 1) rfl (by decide) (by decide) rfl (fun ls hl => ?_)
  refine lv_goto (tgt := 6) hx hb dX5_digest_28 (by decide) ?_
  refine lv_iload_n hx hb dX5_digest_6 rfl (lv_at hl 0 rfl) ?_
  refine lv_bipush (v := 8) hx hb dX5_digest_7 (by decide) ?_
  refine lv_icmp_ge (tgt := 31) hx hb dX5_digest_9 (by decide) (fun c_5 => absurd c_5 (by decide)) (fun _ => ?_)
  refine lv_lload_n hx hb dX5_digest_12 rfl (lv_at hl 1 rfl) ?_
  refine lv_ldc2 (v := 31) hx hb hown (hts (.constantLong RX5 271 (31)) (List.mem_of_getElem? (i := 2) rfl)) dX5_digest_13 ?_
  refine lv_lmul hx hb dX5_digest_16 ?_
  refine lv_aload_n hx hb dX5_digest_17 rfl (lv_at hl 2 rfl) ?_
  refine lv_iload_n hx hb dX5_digest_18 rfl (lv_at hl 0 rfl) ?_
  have hPc := hP.sub (ws' := [(h0, .inr (10, [.ref fq, .ref sq, .ref gq, .ref nq, .ref dq, .ref pq, .int 0, .int 0, .int 0])), (gq, .inr (4, [.int mc_gq, .ref tE, .int 0]))]) [2, 0] rfl
  have hDc := hD.sub (ws' := [(h0, .inr (10, [.ref fq, .ref sq, .ref gq, .ref nq, .ref dq, .ref pq, .int 0, .int 0, .int 0])), (gq, .inr (4, [.int mc_gq, .ref tE, .int 0]))]) [2, 0] (by decide) rfl
  have hKc := hK.sub (tys' := []) [] rfl
  have hFc := va_free (wc := [(h0, .inr (10, [.ref fq, .ref sq, .ref gq, .ref nq, .ref dq, .ref pq, .int 0, .int 0, .int 0])), (gq, .inr (4, [.int mc_gq, .ref tE, .int 0]))]) hD hS hA [2, 0] rfl
  refine va_calli (va_runV (As := [.int 2]) (rest := [.long (((((541 * 31) + 0) * 31) + 0) * 31)]) ⟨hx, hb, hml, hown, hts⟩ (c_count_2 l hl9 dC dI tE h0 fq sq gq nq dq pq mc_gq _ ) (cwV 1 hts (goodIn_app (goodIn_r _ [11, 12, 13, 14] (by rfl) (by decide +kernel)) gg_c_digest_c_count_2) rfl rfl rfl (by decide +kernel) ⟨Nat.le_of_ble_eq_true rfl, Nat.le_of_ble_eq_true rfl⟩) ⟨Pre0.blind, va_recv hKc hPc (ci := 10) (q0 := 0) rfl rfl, Pre0.give hPc hKc hDc hT hS hFc⟩ rfl rfl hl.1 rfl (lv_room (Nat.le_of_ble_eq_true rfl)) dX5_digest_19 ⟨Nat.le_of_ble_eq_true rfl, Nat.le_of_ble_eq_true rfl⟩) hS (fun q _ h => hFc q h) hFc (fun r_6 u t H1 locs ht hvm hw hB hz1 hk1 hS => ?_)
  obtain ⟨hP1, hK1, hD1⟩ := hB
  rw [ht] at hP1
  have hK1 := va_K.moved hvm.symm hK1
  obtain ⟨hP, hD⟩ := va_join (wr := [(fq, .inr (4, [.int mc_fq, .ref tE, .int 0])), (sq, .inr (4, [.int mc_sq, .ref tE, .int 0]))]) (w1 := [(h0, .inr (10, [.ref fq, .ref sq, .ref gq, .ref nq, .ref dq, .ref pq, .int 0, .int 0, .int 0])), (gq, .inr (4, [.int mc_gq, .ref tE, .int 0]))]) hP hD [2, 0] [1, 3] rfl rfl (by decide) (by decide) hk1 hFc hP1 hD1
  generalize H1 = H at hP hS ⊢
  have hP : va_P (dC, dI) vwCl [(fq, .inr (4, [.int mc_fq, .ref tE, .int 0])), (sq, .inr (4, [.int mc_sq, .ref tE, .int 0])), (h0, .inr (10, [.ref fq, .ref sq, .ref gq, .ref nq, .ref dq, .ref pq, .int 0, .int 0, .int 0])), (gq, .inr (4, [.int mc_gq, .ref tE, .int 0]))] H := hP
  have hD : va_D A [(fq, .inr (4, [.int mc_fq, .ref tE, .int 0])), (sq, .inr (4, [.int mc_sq, .ref tE, .int 0])), (h0, .inr (10, [.ref fq, .ref sq, .ref gq, .ref nq, .ref dq, .ref pq, .int 0, .int 0, .int 0])), (gq, .inr (4, [.int mc_gq, .ref tE, .int 0]))] := hD
  refine W.widen (k := 0) (n := 0) (by omega) (by omega) ?_
  obtain rfl : r_6 = 0 := hw
  refine lv_i2l (v := 0) hx hb dX5_digest_22 (by decide) ?_
  refine lv_ladd hx hb dX5_digest_23 ?_
  refine lv_lstore_n (lv' := [(1, .long ((((((541 * 31) + 0) * 31) + 0) * 31) + 0)), (3, .int 2), (0, .ref h0)]) hx hb dX5_digest_24 rfl hl (by decide) rfl (fun ls hl => ?_)
  refine lv_iinc (v := 3) (lv' := [(3, .int 3), (1, .long ((((((541 * 31) + 0) * 31) + 0) * 31) + 0)), (0, .ref h0)]) hx hb dX5_digest_25 hl (k := 1) rfl (by decide) (by decide) rfl (fun ls hl => ?_)
  refine lv_goto (tgt := 6) hx hb dX5_digest_28 (by decide) ?_
  refine lv_iload_n hx hb dX5_digest_6 rfl (lv_at hl 0 rfl) ?_
  refine lv_bipush (v := 8) hx hb dX5_digest_7 (by decide) ?_
  refine lv_icmp_ge (tgt := 31) hx hb dX5_digest_9 (by decide) (fun c_7 => absurd c_7 (by decide)) (fun _ => ?_)
  refine lv_lload_n hx hb dX5_digest_12 rfl (lv_at hl 1 rfl) ?_
  refine lv_ldc2 (v := 31) hx hb hown (hts (.constantLong RX5 271 (31)) (List.mem_of_getElem? (i := 2) rfl)) dX5_digest_13 ?_
  refine lv_lmul hx hb dX5_digest_16 ?_
  refine lv_aload_n hx hb dX5_digest_17 rfl (lv_at hl 2 rfl) ?_
  refine lv_iload_n hx hb dX5_digest_18 rfl (lv_at hl 0 rfl) ?_
  have hPc := hP.sub (ws' := [(h0, .inr (10, [.ref fq, .ref sq, .ref gq, .ref nq, .ref dq, .ref pq, .int 0, .int 0, .int 0])), (gq, .inr (4, [.int mc_gq, .ref tE, .int 0]))]) [2, 3] rfl
  have hDc := hD.sub (ws' := [(h0, .inr (10, [.ref fq, .ref sq, .ref gq, .ref nq, .ref dq, .ref pq, .int 0, .int 0, .int 0])), (gq, .inr (4, [.int mc_gq, .ref tE, .int 0]))]) [2, 3] (by decide) rfl
  have hKc := hK.sub (tys' := []) [] rfl
  have hFc := va_free (wc := [(h0, .inr (10, [.ref fq, .ref sq, .ref gq, .ref nq, .ref dq, .ref pq, .int 0, .int 0, .int 0])), (gq, .inr (4, [.int mc_gq, .ref tE, .int 0]))]) hD hS hA [2, 3] rfl
  refine va_calli (va_runV (As := [.int 3]) (rest := [.long (((((((541 * 31) + 0) * 31) + 0) * 31) + 0) * 31)]) ⟨hx, hb, hml, hown, hts⟩ (c_count_3 l hl9 dC dI tE h0 fq sq gq nq dq pq mc_gq _ ) (cwV 1 hts (goodIn_app (goodIn_r _ [11, 12, 13, 14] (by rfl) (by decide +kernel)) gg_c_digest_c_count_3) rfl rfl rfl (by decide +kernel) ⟨Nat.le_of_ble_eq_true rfl, Nat.le_of_ble_eq_true rfl⟩) ⟨Pre0.blind, va_recv hKc hPc (ci := 10) (q0 := 0) rfl rfl, Pre0.give hPc hKc hDc hT hS hFc⟩ rfl rfl hl.1 rfl (lv_room (Nat.le_of_ble_eq_true rfl)) dX5_digest_19 ⟨Nat.le_of_ble_eq_true rfl, Nat.le_of_ble_eq_true rfl⟩) hS (fun q _ h => hFc q h) hFc (fun r_8 u t H1 locs ht hvm hw hB hz1 hk1 hS => ?_)
  obtain ⟨hP1, hK1, hD1⟩ := hB
  rw [ht] at hP1
  have hK1 := va_K.moved hvm.symm hK1
  obtain ⟨hP, hD⟩ := va_join (wr := [(fq, .inr (4, [.int mc_fq, .ref tE, .int 0])), (sq, .inr (4, [.int mc_sq, .ref tE, .int 0]))]) (w1 := [(h0, .inr (10, [.ref fq, .ref sq, .ref gq, .ref nq, .ref dq, .ref pq, .int 0, .int 0, .int 0])), (gq, .inr (4, [.int mc_gq, .ref tE, .int 0]))]) hP hD [2, 3] [0, 1] rfl rfl (by decide) (by decide) hk1 hFc hP1 hD1
  generalize H1 = H at hP hS ⊢
  have hP : va_P (dC, dI) vwCl [(fq, .inr (4, [.int mc_fq, .ref tE, .int 0])), (sq, .inr (4, [.int mc_sq, .ref tE, .int 0])), (h0, .inr (10, [.ref fq, .ref sq, .ref gq, .ref nq, .ref dq, .ref pq, .int 0, .int 0, .int 0])), (gq, .inr (4, [.int mc_gq, .ref tE, .int 0]))] H := hP
  have hD : va_D A [(fq, .inr (4, [.int mc_fq, .ref tE, .int 0])), (sq, .inr (4, [.int mc_sq, .ref tE, .int 0])), (h0, .inr (10, [.ref fq, .ref sq, .ref gq, .ref nq, .ref dq, .ref pq, .int 0, .int 0, .int 0])), (gq, .inr (4, [.int mc_gq, .ref tE, .int 0]))] := hD
  refine W.widen (k := 0) (n := 0) (by omega) (by omega) ?_
  obtain rfl : r_8 = 0 := hw
  refine lv_i2l (v := 0) hx hb dX5_digest_22 (by decide) ?_
  refine lv_ladd hx hb dX5_digest_23 ?_
  refine lv_lstore_n (lv' := [(1, .long ((((((((541 * 31) + 0) * 31) + 0) * 31) + 0) * 31) + 0)), (3, .int 3), (0, .ref h0)]) hx hb dX5_digest_24 rfl hl (by decide) rfl (fun ls hl => ?_)
  refine lv_iinc (v := 4) (lv' := [(3, .int 4), (1, .long ((((((((541 * 31) + 0) * 31) + 0) * 31) + 0) * 31) + 0)), (0, .ref h0)]) hx hb dX5_digest_25 hl (k := 1) rfl (by decide) (by decide) rfl (fun ls hl => ?_)
  refine lv_goto (tgt := 6) hx hb dX5_digest_28 (by decide) ?_
  refine lv_iload_n hx hb dX5_digest_6 rfl (lv_at hl 0 rfl) ?_
  refine lv_bipush (v := 8) hx hb dX5_digest_7 (by decide) ?_
  refine lv_icmp_ge (tgt := 31) hx hb dX5_digest_9 (by decide) (fun c_9 => absurd c_9 (by decide)) (fun _ => ?_)
  refine lv_lload_n hx hb dX5_digest_12 rfl (lv_at hl 1 rfl) ?_
  refine lv_ldc2 (v := 31) hx hb hown (hts (.constantLong RX5 271 (31)) (List.mem_of_getElem? (i := 2) rfl)) dX5_digest_13 ?_
  refine lv_lmul hx hb dX5_digest_16 ?_
  refine lv_aload_n hx hb dX5_digest_17 rfl (lv_at hl 2 rfl) ?_
  refine lv_iload_n hx hb dX5_digest_18 rfl (lv_at hl 0 rfl) ?_
  have hPc := hP.sub (ws' := [(h0, .inr (10, [.ref fq, .ref sq, .ref gq, .ref nq, .ref dq, .ref pq, .int 0, .int 0, .int 0])), (gq, .inr (4, [.int mc_gq, .ref tE, .int 0]))]) [2, 3] rfl
  have hDc := hD.sub (ws' := [(h0, .inr (10, [.ref fq, .ref sq, .ref gq, .ref nq, .ref dq, .ref pq, .int 0, .int 0, .int 0])), (gq, .inr (4, [.int mc_gq, .ref tE, .int 0]))]) [2, 3] (by decide) rfl
  have hKc := hK.sub (tys' := []) [] rfl
  have hFc := va_free (wc := [(h0, .inr (10, [.ref fq, .ref sq, .ref gq, .ref nq, .ref dq, .ref pq, .int 0, .int 0, .int 0])), (gq, .inr (4, [.int mc_gq, .ref tE, .int 0]))]) hD hS hA [2, 3] rfl
  refine va_calli (va_runV (As := [.int 4]) (rest := [.long (((((((((541 * 31) + 0) * 31) + 0) * 31) + 0) * 31) + 0) * 31)]) ⟨hx, hb, hml, hown, hts⟩ (c_count_4 l hl9 dC dI tE h0 fq sq gq nq dq pq mc_gq _ ) (cwV 1 hts (goodIn_app (goodIn_r _ [11, 12, 13, 14] (by rfl) (by decide +kernel)) gg_c_digest_c_count_4) rfl rfl rfl (by decide +kernel) ⟨Nat.le_of_ble_eq_true rfl, Nat.le_of_ble_eq_true rfl⟩) ⟨Pre0.blind, va_recv hKc hPc (ci := 10) (q0 := 0) rfl rfl, Pre0.give hPc hKc hDc hT hS hFc⟩ rfl rfl hl.1 rfl (lv_room (Nat.le_of_ble_eq_true rfl)) dX5_digest_19 ⟨Nat.le_of_ble_eq_true rfl, Nat.le_of_ble_eq_true rfl⟩) hS (fun q _ h => hFc q h) hFc (fun r_10 u t H1 locs ht hvm hw hB hz1 hk1 hS => ?_)
  obtain ⟨hP1, hK1, hD1⟩ := hB
  rw [ht] at hP1
  have hK1 := va_K.moved hvm.symm hK1
  obtain ⟨hP, hD⟩ := va_join (wr := [(fq, .inr (4, [.int mc_fq, .ref tE, .int 0])), (sq, .inr (4, [.int mc_sq, .ref tE, .int 0]))]) (w1 := [(h0, .inr (10, [.ref fq, .ref sq, .ref gq, .ref nq, .ref dq, .ref pq, .int 0, .int 0, .int 0])), (gq, .inr (4, [.int mc_gq, .ref tE, .int 0]))]) hP hD [2, 3] [0, 1] rfl rfl (by decide) (by decide) hk1 hFc hP1 hD1
  generalize H1 = H at hP hS ⊢
  have hP : va_P (dC, dI) vwCl [(fq, .inr (4, [.int mc_fq, .ref tE, .int 0])), (sq, .inr (4, [.int mc_sq, .ref tE, .int 0])), (h0, .inr (10, [.ref fq, .ref sq, .ref gq, .ref nq, .ref dq, .ref pq, .int 0, .int 0, .int 0])), (gq, .inr (4, [.int mc_gq, .ref tE, .int 0]))] H := hP
  have hD : va_D A [(fq, .inr (4, [.int mc_fq, .ref tE, .int 0])), (sq, .inr (4, [.int mc_sq, .ref tE, .int 0])), (h0, .inr (10, [.ref fq, .ref sq, .ref gq, .ref nq, .ref dq, .ref pq, .int 0, .int 0, .int 0])), (gq, .inr (4, [.int mc_gq, .ref tE, .int 0]))] := hD
  refine W.widen (k := 0) (n := 0) (by omega) (by omega) ?_
  obtain rfl : r_10 = 0 := hw
  refine lv_i2l (v := 0) hx hb dX5_digest_22 (by decide) ?_
  refine lv_ladd hx hb dX5_digest_23 ?_
  refine lv_lstore_n (lv' := [(1, .long ((((((((((541 * 31) + 0) * 31) + 0) * 31) + 0) * 31) + 0) * 31) + 0)), (3, .int 4), (0, .ref h0)]) hx hb dX5_digest_24 rfl hl (by decide) rfl (fun ls hl => ?_)
  refine lv_iinc (v := 5) (lv' := [(3, .int 5), (1, .long ((((((((((541 * 31) + 0) * 31) + 0) * 31) + 0) * 31) + 0) * 31) + 0)), (0, .ref h0)]) hx hb dX5_digest_25 hl (k := 1) rfl (by decide) (by decide) rfl (fun ls hl => ?_)
  refine lv_goto (tgt := 6) hx hb dX5_digest_28 (by decide) ?_
  refine lv_iload_n hx hb dX5_digest_6 rfl (lv_at hl 0 rfl) ?_
  refine lv_bipush (v := 8) hx hb dX5_digest_7 (by decide) ?_
  refine lv_icmp_ge (tgt := 31) hx hb dX5_digest_9 (by decide) (fun c_11 => absurd c_11 (by decide)) (fun _ => ?_)
  refine lv_lload_n hx hb dX5_digest_12 rfl (lv_at hl 1 rfl) ?_
  refine lv_ldc2 (v := 31) hx hb hown (hts (.constantLong RX5 271 (31)) (List.mem_of_getElem? (i := 2) rfl)) dX5_digest_13 ?_
  refine lv_lmul hx hb dX5_digest_16 ?_
  refine lv_aload_n hx hb dX5_digest_17 rfl (lv_at hl 2 rfl) ?_
  refine lv_iload_n hx hb dX5_digest_18 rfl (lv_at hl 0 rfl) ?_
  have hPc := hP.sub (ws' := [(h0, .inr (10, [.ref fq, .ref sq, .ref gq, .ref nq, .ref dq, .ref pq, .int 0, .int 0, .int 0]))]) [2] rfl
  have hDc := hD.sub (ws' := [(h0, .inr (10, [.ref fq, .ref sq, .ref gq, .ref nq, .ref dq, .ref pq, .int 0, .int 0, .int 0]))]) [2] (by decide) rfl
  have hKc := hK.sub (tys' := []) [] rfl
  have hFc := va_free (wc := [(h0, .inr (10, [.ref fq, .ref sq, .ref gq, .ref nq, .ref dq, .ref pq, .int 0, .int 0, .int 0]))]) hD hS hA [2] rfl
  refine va_calli (va_runV (As := [.int 5]) (rest := [.long (((((((((((541 * 31) + 0) * 31) + 0) * 31) + 0) * 31) + 0) * 31) + 0) * 31)]) ⟨hx, hb, hml, hown, hts⟩ (c_count_5 l hl9 dC dI tE h0 fq sq gq nq dq pq _ ) (cwV 1 hts (goodIn_app (goodIn_r _ [11, 12, 13, 14] (by rfl) (by decide +kernel)) gg_c_digest_c_count_5) rfl rfl rfl (by decide +kernel) ⟨Nat.le_of_ble_eq_true rfl, Nat.le_of_ble_eq_true rfl⟩) ⟨Pre0.blind, va_recv hKc hPc (ci := 10) (q0 := 0) rfl rfl, Pre0.give hPc hKc hDc hT hS hFc⟩ rfl rfl hl.1 rfl (lv_room (Nat.le_of_ble_eq_true rfl)) dX5_digest_19 ⟨Nat.le_of_ble_eq_true rfl, Nat.le_of_ble_eq_true rfl⟩) hS (fun q _ h => hFc q h) hFc (fun r_12 u t H1 locs ht hvm hw hB hz1 hk1 hS => ?_)
  obtain ⟨hP1, hK1, hD1⟩ := hB
  rw [ht] at hP1
  have hK1 := va_K.moved hvm.symm hK1
  obtain ⟨hP, hD⟩ := va_join (wr := [(fq, .inr (4, [.int mc_fq, .ref tE, .int 0])), (sq, .inr (4, [.int mc_sq, .ref tE, .int 0])), (gq, .inr (4, [.int mc_gq, .ref tE, .int 0]))]) (w1 := [(h0, .inr (10, [.ref fq, .ref sq, .ref gq, .ref nq, .ref dq, .ref pq, .int 0, .int 0, .int 0]))]) hP hD [2] [0, 1, 3] rfl rfl (by decide) (by decide) hk1 hFc hP1 hD1
  generalize H1 = H at hP hS ⊢
  have hP : va_P (dC, dI) vwCl [(fq, .inr (4, [.int mc_fq, .ref tE, .int 0])), (sq, .inr (4, [.int mc_sq, .ref tE, .int 0])), (gq, .inr (4, [.int mc_gq, .ref tE, .int 0])), (h0, .inr (10, [.ref fq, .ref sq, .ref gq, .ref nq, .ref dq, .ref pq, .int 0, .int 0, .int 0]))] H := hP
  have hD : va_D A [(fq, .inr (4, [.int mc_fq, .ref tE, .int 0])), (sq, .inr (4, [.int mc_sq, .ref tE, .int 0])), (gq, .inr (4, [.int mc_gq, .ref tE, .int 0])), (h0, .inr (10, [.ref fq, .ref sq, .ref gq, .ref nq, .ref dq, .ref pq, .int 0, .int 0, .int 0]))] := hD
  refine W.widen (k := 0) (n := 0) (by omega) (by omega) ?_
  obtain rfl : r_12 = 0 := hw
  refine lv_i2l (v := 0) hx hb dX5_digest_22 (by decide) ?_
  refine lv_ladd hx hb dX5_digest_23 ?_
  refine lv_lstore_n (lv' := [(1, .long ((((((((((((541 * 31) + 0) * 31) + 0) * 31) + 0) * 31) + 0) * 31) + 0) * 31) + 0)), (3, .int 5), (0, .ref h0)]) hx hb dX5_digest_24 rfl hl (by decide) rfl (fun ls hl => ?_)
  refine lv_iinc (v := 6) (lv' := [(3, .int 6), (1, .long ((((((((((((541 * 31) + 0) * 31) + 0) * 31) + 0) * 31) + 0) * 31) + 0) * 31) + 0)), (0, .ref h0)]) hx hb dX5_digest_25 hl (k := 1) rfl (by decide) (by decide) rfl (fun ls hl => ?_)
  refine lv_goto (tgt := 6) hx hb dX5_digest_28 (by decide) ?_
  refine lv_iload_n hx hb dX5_digest_6 rfl (lv_at hl 0 rfl) ?_
  refine lv_bipush (v := 8) hx hb dX5_digest_7 (by decide) ?_
  refine lv_icmp_ge (tgt := 31) hx hb dX5_digest_9 (by decide) (fun c_13 => absurd c_13 (by decide)) (fun _ => ?_)
  refine lv_lload_n hx hb dX5_digest_12 rfl (lv_at hl 1 rfl) ?_
  refine lv_ldc2 (v := 31) hx hb hown (hts (.constantLong RX5 271 (31)) (List.mem_of_getElem? (i := 2) rfl)) dX5_digest_13 ?_
  refine lv_lmul hx hb dX5_digest_16 ?_
  refine lv_aload_n hx hb dX5_digest_17 rfl (lv_at hl 2 rfl) ?_
  refine lv_iload_n hx hb dX5_digest_18 rfl (lv_at hl 0 rfl) ?_
  have hPc := hP.sub (ws' := [(h0, .inr (10, [.ref fq, .ref sq, .ref gq, .ref nq, .ref dq, .ref pq, .int 0, .int 0, .int 0]))]) [3] rfl
  have hDc := hD.sub (ws' := [(h0, .inr (10, [.ref fq, .ref sq, .ref gq, .ref nq, .ref dq, .ref pq, .int 0, .int 0, .int 0]))]) [3] (by decide) rfl
  have hKc := hK.sub (tys' := []) [] rfl
  have hFc := va_free (wc := [(h0, .inr (10, [.ref fq, .ref sq, .ref gq, .ref nq, .ref dq, .ref pq, .int 0, .int 0, .int 0]))]) hD hS hA [3] rfl
  refine va_calli (va_runV (As := [.int 6]) (rest := [.long (((((((((((((541 * 31) + 0) * 31) + 0) * 31) + 0) * 31) + 0) * 31) + 0) * 31) + 0) * 31)]) ⟨hx, hb, hml, hown, hts⟩ (c_count_6 l hl9 dC dI tE h0 fq sq gq nq dq pq _ ) (cwV 1 hts (goodIn_app (goodIn_r _ [11, 12, 13, 14] (by rfl) (by decide +kernel)) gg_c_digest_c_count_6) rfl rfl rfl (by decide +kernel) ⟨Nat.le_of_ble_eq_true rfl, Nat.le_of_ble_eq_true rfl⟩) ⟨Pre0.blind, va_recv hKc hPc (ci := 10) (q0 := 0) rfl rfl, Pre0.give hPc hKc hDc hT hS hFc⟩ rfl rfl hl.1 rfl (lv_room (Nat.le_of_ble_eq_true rfl)) dX5_digest_19 ⟨Nat.le_of_ble_eq_true rfl, Nat.le_of_ble_eq_true rfl⟩) hS (fun q _ h => hFc q h) hFc (fun r_14 u t H1 locs ht hvm hw hB hz1 hk1 hS => ?_)
  obtain ⟨hP1, hK1, hD1⟩ := hB
  rw [ht] at hP1
  have hK1 := va_K.moved hvm.symm hK1
  obtain ⟨hP, hD⟩ := va_join (wr := [(fq, .inr (4, [.int mc_fq, .ref tE, .int 0])), (sq, .inr (4, [.int mc_sq, .ref tE, .int 0])), (gq, .inr (4, [.int mc_gq, .ref tE, .int 0]))]) (w1 := [(h0, .inr (10, [.ref fq, .ref sq, .ref gq, .ref nq, .ref dq, .ref pq, .int 0, .int 0, .int 0]))]) hP hD [3] [0, 1, 2] rfl rfl (by decide) (by decide) hk1 hFc hP1 hD1
  generalize H1 = H at hP hS ⊢
  have hP : va_P (dC, dI) vwCl [(fq, .inr (4, [.int mc_fq, .ref tE, .int 0])), (sq, .inr (4, [.int mc_sq, .ref tE, .int 0])), (gq, .inr (4, [.int mc_gq, .ref tE, .int 0])), (h0, .inr (10, [.ref fq, .ref sq, .ref gq, .ref nq, .ref dq, .ref pq, .int 0, .int 0, .int 0]))] H := hP
  have hD : va_D A [(fq, .inr (4, [.int mc_fq, .ref tE, .int 0])), (sq, .inr (4, [.int mc_sq, .ref tE, .int 0])), (gq, .inr (4, [.int mc_gq, .ref tE, .int 0])), (h0, .inr (10, [.ref fq, .ref sq, .ref gq, .ref nq, .ref dq, .ref pq, .int 0, .int 0, .int 0]))] := hD
  refine W.widen (k := 0) (n := 0) (by omega) (by omega) ?_
  obtain rfl : r_14 = 0 := hw
  refine lv_i2l (v := 0) hx hb dX5_digest_22 (by decide) ?_
  refine lv_ladd hx hb dX5_digest_23 ?_
  refine lv_lstore_n (lv' := [(1, .long ((((((((((((((541 * 31) + 0) * 31) + 0) * 31) + 0) * 31) + 0) * 31) + 0) * 31) + 0) * 31) + 0)), (3, .int 6), (0, .ref h0)]) hx hb dX5_digest_24 rfl hl (by decide) rfl (fun ls hl => ?_)
  refine lv_iinc (v := 7) (lv' := [(3, .int 7), (1, .long ((((((((((((((541 * 31) + 0) * 31) + 0) * 31) + 0) * 31) + 0) * 31) + 0) * 31) + 0) * 31) + 0)), (0, .ref h0)]) hx hb dX5_digest_25 hl (k := 1) rfl (by decide) (by decide) rfl (fun ls hl => ?_)
  refine lv_goto (tgt := 6) hx hb dX5_digest_28 (by decide) ?_
  refine lv_iload_n hx hb dX5_digest_6 rfl (lv_at hl 0 rfl) ?_
  refine lv_bipush (v := 8) hx hb dX5_digest_7 (by decide) ?_
  refine lv_icmp_ge (tgt := 31) hx hb dX5_digest_9 (by decide) (fun c_15 => absurd c_15 (by decide)) (fun _ => ?_)
  refine lv_lload_n hx hb dX5_digest_12 rfl (lv_at hl 1 rfl) ?_
  refine lv_ldc2 (v := 31) hx hb hown (hts (.constantLong RX5 271 (31)) (List.mem_of_getElem? (i := 2) rfl)) dX5_digest_13 ?_
  refine lv_lmul hx hb dX5_digest_16 ?_
  refine lv_aload_n hx hb dX5_digest_17 rfl (lv_at hl 2 rfl) ?_
  refine lv_iload_n hx hb dX5_digest_18 rfl (lv_at hl 0 rfl) ?_
  have hPc := hP.sub (ws' := [(h0, .inr (10, [.ref fq, .ref sq, .ref gq, .ref nq, .ref dq, .ref pq, .int 0, .int 0, .int 0]))]) [3] rfl
  have hDc := hD.sub (ws' := [(h0, .inr (10, [.ref fq, .ref sq, .ref gq, .ref nq, .ref dq, .ref pq, .int 0, .int 0, .int 0]))]) [3] (by decide) rfl
  have hKc := hK.sub (tys' := []) [] rfl
  have hFc := va_free (wc := [(h0, .inr (10, [.ref fq, .ref sq, .ref gq, .ref nq, .ref dq, .ref pq, .int 0, .int 0, .int 0]))]) hD hS hA [3] rfl
  refine va_calli (va_runV (As := [.int 7]) (rest := [.long (((((((((((((((541 * 31) + 0) * 31) + 0) * 31) + 0) * 31) + 0) * 31) + 0) * 31) + 0) * 31) + 0) * 31)]) ⟨hx, hb, hml, hown, hts⟩ (c_count_7 l hl9 dC dI tE h0 fq sq gq nq dq pq _ ) (cwV 1 hts (goodIn_app (goodIn_r _ [11, 12, 13, 14] (by rfl) (by decide +kernel)) gg_c_digest_c_count_7) rfl rfl rfl (by decide +kernel) ⟨Nat.le_of_ble_eq_true rfl, Nat.le_of_ble_eq_true rfl⟩) ⟨Pre0.blind, va_recv hKc hPc (ci := 10) (q0 := 0) rfl rfl, Pre0.give hPc hKc hDc hT hS hFc⟩ rfl rfl hl.1 rfl (lv_room (Nat.le_of_ble_eq_true rfl)) dX5_digest_19 ⟨Nat.le_of_ble_eq_true rfl, Nat.le_of_ble_eq_true rfl⟩) hS (fun q _ h => hFc q h) hFc (fun r_16 u t H1 locs ht hvm hw hB hz1 hk1 hS => ?_)
  obtain ⟨hP1, hK1, hD1⟩ := hB
  rw [ht] at hP1
  have hK1 := va_K.moved hvm.symm hK1
  obtain ⟨hP, hD⟩ := va_join (wr := [(fq, .inr (4, [.int mc_fq, .ref tE, .int 0])), (sq, .inr (4, [.int mc_sq, .ref tE, .int 0])), (gq, .inr (4, [.int mc_gq, .ref tE, .int 0]))]) (w1 := [(h0, .inr (10, [.ref fq, .ref sq, .ref gq, .ref nq, .ref dq, .ref pq, .int 0, .int 0, .int 0]))]) hP hD [3] [0, 1, 2] rfl rfl (by decide) (by decide) hk1 hFc hP1 hD1
  generalize H1 = H at hP hS ⊢
  have hP : va_P (dC, dI) vwCl [(fq, .inr (4, [.int mc_fq, .ref tE, .int 0])), (sq, .inr (4, [.int mc_sq, .ref tE, .int 0])), (gq, .inr (4, [.int mc_gq, .ref tE, .int 0])), (h0, .inr (10, [.ref fq, .ref sq, .ref gq, .ref nq, .ref dq, .ref pq, .int 0, .int 0, .int 0]))] H := hP
  have hD : va_D A [(fq, .inr (4, [.int mc_fq, .ref tE, .int 0])), (sq, .inr (4, [.int mc_sq, .ref tE, .int 0])), (gq, .inr (4, [.int mc_gq, .ref tE, .int 0])), (h0, .inr (10, [.ref fq, .ref sq, .ref gq, .ref nq, .ref dq, .ref pq, .int 0, .int 0, .int 0]))] := hD
  refine W.widen (k := 0) (n := 0) (by omega) (by omega) ?_
  obtain rfl : r_16 = 0 := hw
  refine lv_i2l (v := 0) hx hb dX5_digest_22 (by decide) ?_
  refine lv_ladd hx hb dX5_digest_23 ?_
  refine lv_lstore_n (lv' := [(1, .long ((((((((((((((((541 * 31) + 0) * 31) + 0) * 31) + 0) * 31) + 0) * 31) + 0) * 31) + 0) * 31) + 0) * 31) + 0)), (3, .int 7), (0, .ref h0)]) hx hb dX5_digest_24 rfl hl (by decide) rfl (fun ls hl => ?_)
  refine lv_iinc (v := 8) (lv' := [(3, .int 8), (1, .long ((((((((((((((((541 * 31) + 0) * 31) + 0) * 31) + 0) * 31) + 0) * 31) + 0) * 31) + 0) * 31) + 0) * 31) + 0)), (0, .ref h0)]) hx hb dX5_digest_25 hl (k := 1) rfl (by decide) (by decide) rfl (fun ls hl => ?_)
  refine lv_goto (tgt := 6) hx hb dX5_digest_28 (by decide) ?_
  refine lv_iload_n hx hb dX5_digest_6 rfl (lv_at hl 0 rfl) ?_
  refine lv_bipush (v := 8) hx hb dX5_digest_7 (by decide) ?_
  refine lv_icmp_ge (tgt := 31) hx hb dX5_digest_9 (by decide) (fun _ => ?_) (fun c_17 => absurd (by decide) c_17)
  refine lv_iconst (v := 0) hx hb dX5_digest_31 (by decide) ?_
  refine lv_istore_n (lv' := [(3, .int 0), (1, .long ((((((((((((((((541 * 31) + 0) * 31) + 0) * 31) + 0) * 31) + 0) * 31) + 0) * 31) + 0) * 31) + 0) * 31) + 0)), (0, .ref h0)]) hx hb dX5_digest_32 rfl hl (by decide) rfl (fun ls hl => ?_)
  refine lv_iload_n hx hb dX5_digest_33 rfl (lv_at hl 0 rfl) ?_
  refine lv_aload_n hx hb dX5_digest_34 rfl (lv_at hl 2 rfl) ?_
  refine va_get (D := (dC, dI)) (ci := 10) (v := .ref fq) (C := RX5) (T := TX5) (N := 9) hx hb hts u_c_digest_X5 hown hK hP 3 rfl rfl 0 (by decide) (hts (.fieldLink RX5 10 "HotelOfBells" "floors" "Ljava/util/ArrayList;") (List.mem_of_getElem? (i := 4) rfl)) (fun _ h9 => h9) rfl dX5_digest_35 ?_
  have hPc := hP.sub (ws' := [(fq, .inr (4, [.int mc_fq, .ref tE, .int 0]))]) [0] rfl
  have hDc := hD.sub (ws' := [(fq, .inr (4, [.int mc_fq, .ref tE, .int 0]))]) [0] (by decide) rfl
  have hKc := hK.sub (tys' := []) [] rfl
  have hFc := va_free (wc := [(fq, .inr (4, [.int mc_fq, .ref tE, .int 0]))]) hD hS hA [0] rfl
  refine va_calli (va_runV (As := []) (rest := [.int 0]) ⟨hx, hb, hml, hown, hts⟩ (c_AL_size l hl9 dC dI tE fq mc_fq 0 (.ref tE) _ ) (cwV 0 hts (goodIn_app (goodIn_r _ [7, 8, 9, 10] (by rfl) (by decide +kernel)) gg_c_digest_c_AL_size) rfl rfl rfl (by decide +kernel) ⟨Nat.le_of_ble_eq_true rfl, Nat.le_of_ble_eq_true rfl⟩) ⟨Pre0.blind, va_recv hKc hPc (ci := 4) (q0 := 0) rfl rfl, Pre0.give hPc hKc hDc hT hS hFc⟩ rfl rfl hl.1 rfl (lv_room (Nat.le_of_ble_eq_true rfl)) dX5_digest_38 ⟨Nat.le_of_ble_eq_true rfl, Nat.le_of_ble_eq_true rfl⟩) hS (fun q _ h => hFc q h) hFc (fun r_18 u t H1 locs ht hvm hw hB hz1 hk1 hS => ?_)
  obtain ⟨hP1, hK1, hD1⟩ := hB
  rw [ht] at hP1
  have hK1 := va_K.moved hvm.symm hK1
  obtain ⟨hP, hD⟩ := va_join (wr := [(sq, .inr (4, [.int mc_sq, .ref tE, .int 0])), (gq, .inr (4, [.int mc_gq, .ref tE, .int 0])), (h0, .inr (10, [.ref fq, .ref sq, .ref gq, .ref nq, .ref dq, .ref pq, .int 0, .int 0, .int 0]))]) (w1 := [(fq, .inr (4, [.int mc_fq, .ref tE, .int 0]))]) hP hD [0] [1, 2, 3] rfl rfl (by decide) (by decide) hk1 hFc hP1 hD1
  generalize H1 = H at hP hS ⊢
  have hP : va_P (dC, dI) vwCl [(sq, .inr (4, [.int mc_sq, .ref tE, .int 0])), (gq, .inr (4, [.int mc_gq, .ref tE, .int 0])), (h0, .inr (10, [.ref fq, .ref sq, .ref gq, .ref nq, .ref dq, .ref pq, .int 0, .int 0, .int 0])), (fq, .inr (4, [.int mc_fq, .ref tE, .int 0]))] H := hP
  have hD : va_D A [(sq, .inr (4, [.int mc_sq, .ref tE, .int 0])), (gq, .inr (4, [.int mc_gq, .ref tE, .int 0])), (h0, .inr (10, [.ref fq, .ref sq, .ref gq, .ref nq, .ref dq, .ref pq, .int 0, .int 0, .int 0])), (fq, .inr (4, [.int mc_fq, .ref tE, .int 0]))] := hD
  refine W.widen (k := 0) (n := 0) (by omega) (by omega) ?_
  obtain rfl : r_18 = 0 := hw
  refine lv_icmp_ge (tgt := 81) hx hb dX5_digest_41 (by decide) (fun _ => ?_) (fun c_19 => absurd (by decide) c_19)
  refine lv_iconst (v := 0) hx hb dX5_digest_81 (by decide) ?_
  refine lv_istore_n (lv' := [(3, .int 0), (1, .long ((((((((((((((((541 * 31) + 0) * 31) + 0) * 31) + 0) * 31) + 0) * 31) + 0) * 31) + 0) * 31) + 0) * 31) + 0)), (0, .ref h0)]) hx hb dX5_digest_82 rfl hl (by decide) rfl (fun ls hl => ?_)
  refine lv_iload_n hx hb dX5_digest_83 rfl (lv_at hl 0 rfl) ?_
  refine lv_aload_n hx hb dX5_digest_84 rfl (lv_at hl 2 rfl) ?_
  refine va_get (D := (dC, dI)) (ci := 10) (v := .ref sq) (C := RX5) (T := TX5) (N := 9) hx hb hts u_c_digest_X5 hown hK hP 2 rfl rfl 1 (by decide) (hts (.fieldLink RX5 16 "HotelOfBells" "shafts" "Ljava/util/ArrayList;") (List.mem_of_getElem? (i := 15) rfl)) (fun _ h9 => h9) rfl dX5_digest_85 ?_
  have hPc := hP.sub (ws' := [(sq, .inr (4, [.int mc_sq, .ref tE, .int 0]))]) [0] rfl
  have hDc := hD.sub (ws' := [(sq, .inr (4, [.int mc_sq, .ref tE, .int 0]))]) [0] (by decide) rfl
  have hKc := hK.sub (tys' := []) [] rfl
  have hFc := va_free (wc := [(sq, .inr (4, [.int mc_sq, .ref tE, .int 0]))]) hD hS hA [0] rfl
  refine va_calli (va_runV (As := []) (rest := [.int 0]) ⟨hx, hb, hml, hown, hts⟩ (c_AL_size l hl9 dC dI tE sq mc_sq 0 (.ref tE) _ ) (cwV 0 hts (goodIn_app (goodIn_r _ [7, 8, 9, 10] (by rfl) (by decide +kernel)) gg_c_digest_c_AL_size) rfl rfl rfl (by decide +kernel) ⟨Nat.le_of_ble_eq_true rfl, Nat.le_of_ble_eq_true rfl⟩) ⟨Pre0.blind, va_recv hKc hPc (ci := 4) (q0 := 0) rfl rfl, Pre0.give hPc hKc hDc hT hS hFc⟩ rfl rfl hl.1 rfl (lv_room (Nat.le_of_ble_eq_true rfl)) dX5_digest_88 ⟨Nat.le_of_ble_eq_true rfl, Nat.le_of_ble_eq_true rfl⟩) hS (fun q _ h => hFc q h) hFc (fun r_20 u t H1 locs ht hvm hw hB hz1 hk1 hS => ?_)
  obtain ⟨hP1, hK1, hD1⟩ := hB
  rw [ht] at hP1
  have hK1 := va_K.moved hvm.symm hK1
  obtain ⟨hP, hD⟩ := va_join (wr := [(gq, .inr (4, [.int mc_gq, .ref tE, .int 0])), (h0, .inr (10, [.ref fq, .ref sq, .ref gq, .ref nq, .ref dq, .ref pq, .int 0, .int 0, .int 0])), (fq, .inr (4, [.int mc_fq, .ref tE, .int 0]))]) (w1 := [(sq, .inr (4, [.int mc_sq, .ref tE, .int 0]))]) hP hD [0] [1, 2, 3] rfl rfl (by decide) (by decide) hk1 hFc hP1 hD1
  generalize H1 = H at hP hS ⊢
  have hP : va_P (dC, dI) vwCl [(gq, .inr (4, [.int mc_gq, .ref tE, .int 0])), (h0, .inr (10, [.ref fq, .ref sq, .ref gq, .ref nq, .ref dq, .ref pq, .int 0, .int 0, .int 0])), (fq, .inr (4, [.int mc_fq, .ref tE, .int 0])), (sq, .inr (4, [.int mc_sq, .ref tE, .int 0]))] H := hP
  have hD : va_D A [(gq, .inr (4, [.int mc_gq, .ref tE, .int 0])), (h0, .inr (10, [.ref fq, .ref sq, .ref gq, .ref nq, .ref dq, .ref pq, .int 0, .int 0, .int 0])), (fq, .inr (4, [.int mc_fq, .ref tE, .int 0])), (sq, .inr (4, [.int mc_sq, .ref tE, .int 0]))] := hD
  refine W.widen (k := 0) (n := 0) (by omega) (by omega) ?_
  obtain rfl : r_20 = 0 := hw
  refine lv_icmp_ge (tgt := 175) hx hb dX5_digest_91 (by decide) (fun _ => ?_) (fun c_21 => absurd (by decide) c_21)
  refine lv_iconst (v := 0) hx hb dX5_digest_175 (by decide) ?_
  refine lv_istore_n (lv' := [(3, .int 0), (1, .long ((((((((((((((((541 * 31) + 0) * 31) + 0) * 31) + 0) * 31) + 0) * 31) + 0) * 31) + 0) * 31) + 0) * 31) + 0)), (0, .ref h0)]) hx hb dX5_digest_176 rfl hl (by decide) rfl (fun ls hl => ?_)
  refine lv_iload_n hx hb dX5_digest_177 rfl (lv_at hl 0 rfl) ?_
  refine lv_aload_n hx hb dX5_digest_178 rfl (lv_at hl 2 rfl) ?_
  refine va_get (D := (dC, dI)) (ci := 10) (v := .ref gq) (C := RX5) (T := TX5) (N := 9) hx hb hts u_c_digest_X5 hown hK hP 1 rfl rfl 2 (by decide) (hts (.fieldLink RX5 19 "HotelOfBells" "guests" "Ljava/util/ArrayList;") (List.mem_of_getElem? (i := 16) rfl)) (fun _ h9 => h9) rfl dX5_digest_179 ?_
  have hPc := hP.sub (ws' := [(gq, .inr (4, [.int mc_gq, .ref tE, .int 0]))]) [0] rfl
  have hDc := hD.sub (ws' := [(gq, .inr (4, [.int mc_gq, .ref tE, .int 0]))]) [0] (by decide) rfl
  have hKc := hK.sub (tys' := []) [] rfl
  have hFc := va_free (wc := [(gq, .inr (4, [.int mc_gq, .ref tE, .int 0]))]) hD hS hA [0] rfl
  refine va_calli (va_runV (As := []) (rest := [.int 0]) ⟨hx, hb, hml, hown, hts⟩ (c_AL_size l hl9 dC dI tE gq mc_gq 0 (.ref tE) _ ) (cwV 0 hts (goodIn_app (goodIn_r _ [7, 8, 9, 10] (by rfl) (by decide +kernel)) gg_c_digest_c_AL_size) rfl rfl rfl (by decide +kernel) ⟨Nat.le_of_ble_eq_true rfl, Nat.le_of_ble_eq_true rfl⟩) ⟨Pre0.blind, va_recv hKc hPc (ci := 4) (q0 := 0) rfl rfl, Pre0.give hPc hKc hDc hT hS hFc⟩ rfl rfl hl.1 rfl (lv_room (Nat.le_of_ble_eq_true rfl)) dX5_digest_182 ⟨Nat.le_of_ble_eq_true rfl, Nat.le_of_ble_eq_true rfl⟩) hS (fun q _ h => hFc q h) hFc (fun r_22 u t H1 locs ht hvm hw hB hz1 hk1 hS => ?_)
  obtain ⟨hP1, hK1, hD1⟩ := hB
  rw [ht] at hP1
  have hK1 := va_K.moved hvm.symm hK1
  obtain ⟨hP, hD⟩ := va_join (wr := [(h0, .inr (10, [.ref fq, .ref sq, .ref gq, .ref nq, .ref dq, .ref pq, .int 0, .int 0, .int 0])), (fq, .inr (4, [.int mc_fq, .ref tE, .int 0])), (sq, .inr (4, [.int mc_sq, .ref tE, .int 0]))]) (w1 := [(gq, .inr (4, [.int mc_gq, .ref tE, .int 0]))]) hP hD [0] [1, 2, 3] rfl rfl (by decide) (by decide) hk1 hFc hP1 hD1
  generalize H1 = H at hP hS ⊢
  have hP : va_P (dC, dI) vwCl [(h0, .inr (10, [.ref fq, .ref sq, .ref gq, .ref nq, .ref dq, .ref pq, .int 0, .int 0, .int 0])), (fq, .inr (4, [.int mc_fq, .ref tE, .int 0])), (sq, .inr (4, [.int mc_sq, .ref tE, .int 0])), (gq, .inr (4, [.int mc_gq, .ref tE, .int 0]))] H := hP
  have hD : va_D A [(h0, .inr (10, [.ref fq, .ref sq, .ref gq, .ref nq, .ref dq, .ref pq, .int 0, .int 0, .int 0])), (fq, .inr (4, [.int mc_fq, .ref tE, .int 0])), (sq, .inr (4, [.int mc_sq, .ref tE, .int 0])), (gq, .inr (4, [.int mc_gq, .ref tE, .int 0]))] := hD
  refine W.widen (k := 0) (n := 0) (by omega) (by omega) ?_
  obtain rfl : r_22 = 0 := hw
  refine lv_icmp_ge (tgt := 225) hx hb dX5_digest_185 (by decide) (fun _ => ?_) (fun c_23 => absurd (by decide) c_23)
  refine lv_iconst (v := 0) hx hb dX5_digest_225 (by decide) ?_
  refine lv_istore_n (lv' := [(3, .int 0), (1, .long ((((((((((((((((541 * 31) + 0) * 31) + 0) * 31) + 0) * 31) + 0) * 31) + 0) * 31) + 0) * 31) + 0) * 31) + 0)), (0, .ref h0)]) hx hb dX5_digest_226 rfl hl (by decide) rfl (fun ls hl => ?_)
  refine lv_iload_n hx hb dX5_digest_227 rfl (lv_at hl 0 rfl) ?_
  refine lv_aload_n hx hb dX5_digest_228 rfl (lv_at hl 2 rfl) ?_
  refine va_get (D := (dC, dI)) (ci := 10) (v := .int 0) (C := RX5) (T := TX5) (N := 9) hx hb hts u_c_digest_X5 hown hK hP 0 rfl rfl 6 (by decide) (hts (.fieldLink RX5 206 "HotelOfBells" "paperLength" "I") (List.mem_of_getElem? (i := 31) rfl)) (fun _ h9 => h9) rfl dX5_digest_229 ?_
  refine lv_icmp_ge (tgt := 264) hx hb dX5_digest_232 (by decide) (fun _ => ?_) (fun c_24 => absurd (by decide) c_24)
  refine lv_lload_n hx hb dX5_digest_264 rfl (lv_at hl 1 rfl) ?_
  have hP9 := hP.sub (ws' := [(h0, .inr (10, [.ref fq, .ref sq, .ref gq, .ref nq, .ref dq, .ref pq, .int 0, .int 0, .int 0])), (fq, .inr (4, [.int mc_fq, .ref tE, .int 0])), (sq, .inr (4, [.int mc_sq, .ref tE, .int 0])), (gq, .inr (4, [.int mc_gq, .ref tE, .int 0]))]) [0, 1, 2, 3] rfl
  have hD9 := hD.sub (ws' := [(h0, .inr (10, [.ref fq, .ref sq, .ref gq, .ref nq, .ref dq, .ref pq, .int 0, .int 0, .int 0])), (fq, .inr (4, [.int mc_fq, .ref tE, .int 0])), (sq, .inr (4, [.int mc_sq, .ref tE, .int 0])), (gq, .inr (4, [.int mc_gq, .ref tE, .int 0]))]) [0, 1, 2, 3] (by decide) rfl
  have hK9 := hK.sub (tys' := []) [] rfl
  exact W.lret (v := (((((((((((((((541 * 31) + 0) * 31) + 0) * 31) + 0) * 31) + 0) * 31) + 0) * 31) + 0) * 31) + 0) * 31) + 0) hx hb hr (fun t ht hW => ⟨⟨(((((((((((((((541 * 31) + 0) * 31) + 0) * 31) + 0) * 31) + 0) * 31) + 0) * 31) + 0) * 31) + 0) * 31) + 0, (), rfl, (by decide), by rw [ht]; exact hP9, va_K.moved hW.alike hK9, hD9⟩, hS.F ht⟩) hS.2.2 dX5_digest_265
