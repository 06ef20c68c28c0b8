theorem dX6_addFloor_0 : decode cX6_addFloor 0 = .ok (.aload_n 0, 1) := by decide +kernel
theorem dX6_addFloor_1 : decode cX6_addFloor 1 = .ok (.iconst 0, 1) := by decide +kernel
theorem dX6_addFloor_12 : decode cX6_addFloor 12 = .ok (.ifCond .ne 9, 3) := by decide +kernel
theorem dX6_addFloor_15 : decode cX6_addFloor 15 = .ok (.aload_n 0, 1) := by decide +kernel
theorem dX6_addFloor_16 : decode cX6_addFloor 16 = .ok (.iconst 1, 1) := by decide +kernel
theorem dX6_addFloor_17 : decode cX6_addFloor 17 = .ok (.invokevirtual 45, 3) := by decide +kernel
theorem dX6_addFloor_2 : decode cX6_addFloor 2 = .ok (.putfield 20, 3) := by decide +kernel
theorem dX6_addFloor_20 : decode cX6_addFloor 20 = .ok (.ireturn, 1) := by decide +kernel
theorem dX6_addFloor_21 : decode cX6_addFloor 21 = .ok (.aload_n 0, 1) := by decide +kernel
theorem dX6_addFloor_22 : decode cX6_addFloor 22 = .ok (.getfield 24, 3) := by decide +kernel
theorem dX6_addFloor_25 : decode cX6_addFloor 25 = .ok (.bipush 6, 2) := by decide +kernel
theorem dX6_addFloor_27 : decode cX6_addFloor 27 = .ok (.if_icmp .ne 9, 3) := by decide +kernel
theorem dX6_addFloor_36 : decode cX6_addFloor 36 = .ok (.aload_n 0, 1) := by decide +kernel
theorem dX6_addFloor_37 : decode cX6_addFloor 37 = .ok (.aload_n 0, 1) := by decide +kernel
theorem dX6_addFloor_38 : decode cX6_addFloor 38 = .ok (.getfield 24, 3) := by decide +kernel
theorem dX6_addFloor_41 : decode cX6_addFloor 41 = .ok (.iconst 0, 1) := by decide +kernel
theorem dX6_addFloor_42 : decode cX6_addFloor 42 = .ok (.iload_n 1, 1) := by decide +kernel
theorem dX6_addFloor_43 : decode cX6_addFloor 43 = .ok (.invokevirtual 49, 3) := by decide +kernel
theorem dX6_addFloor_46 : decode cX6_addFloor 46 = .ok (.aload_n 0, 1) := by decide +kernel
theorem dX6_addFloor_47 : decode cX6_addFloor 47 = .ok (.aload_n 0, 1) := by decide +kernel
theorem dX6_addFloor_48 : decode cX6_addFloor 48 = .ok (.getfield 24, 3) := by decide +kernel
theorem dX6_addFloor_5 : decode cX6_addFloor 5 = .ok (.iload_n 1, 1) := by decide +kernel
theorem dX6_addFloor_51 : decode cX6_addFloor 51 = .ok (.iconst 2, 1) := by decide +kernel
theorem dX6_addFloor_52 : decode cX6_addFloor 52 = .ok (.iconst 1, 1) := by decide +kernel
theorem dX6_addFloor_53 : decode cX6_addFloor 53 = .ok (.invokevirtual 49, 3) := by decide +kernel
theorem dX6_addFloor_56 : decode cX6_addFloor 56 = .ok (.aload_n 0, 1) := by decide +kernel
theorem dX6_addFloor_57 : decode cX6_addFloor 57 = .ok (.dup, 1) := by decide +kernel
theorem dX6_addFloor_58 : decode cX6_addFloor 58 = .ok (.getfield 24, 3) := by decide +kernel
theorem dX6_addFloor_6 : decode cX6_addFloor 6 = .ok (.iconst 3, 1) := by decide +kernel
theorem dX6_addFloor_61 : decode cX6_addFloor 61 = .ok (.iconst 1, 1) := by decide +kernel
theorem dX6_addFloor_62 : decode cX6_addFloor 62 = .ok (.iadd, 1) := by decide +kernel
theorem dX6_addFloor_63 : decode cX6_addFloor 63 = .ok (.putfield 24, 3) := by decide +kernel
theorem dX6_addFloor_66 : decode cX6_addFloor 66 = .ok (.aload_n 0, 1) := by decide +kernel
theorem dX6_addFloor_67 : decode cX6_addFloor 67 = .ok (.getfield 24, 3) := by decide +kernel
theorem dX6_addFloor_7 : decode cX6_addFloor 7 = .ok (.bipush 12, 2) := by decide +kernel
theorem dX6_addFloor_70 : decode cX6_addFloor 70 = .ok (.iconst 1, 1) := by decide +kernel
theorem dX6_addFloor_71 : decode cX6_addFloor 71 = .ok (.isub, 1) := by decide +kernel
theorem dX6_addFloor_72 : decode cX6_addFloor 72 = .ok (.ireturn, 1) := by decide +kernel
theorem dX6_addFloor_9 : decode cX6_addFloor 9 = .ok (.invokestatic 27, 3) := by decide +kernel
theorem dX6_addGuest_0 : decode cX6_addGuest 0 = .ok (.aload_n 0, 1) := by decide +kernel
theorem dX6_addGuest_1 : decode cX6_addGuest 1 = .ok (.iconst 0, 1) := by decide +kernel
theorem dX6_addGuest_11 : decode cX6_addGuest 11 = .ok (.ifCond .ne 9, 3) := by decide +kernel
theorem dX6_addGuest_14 : decode cX6_addGuest 14 = .ok (.aload_n 0, 1) := by decide +kernel
theorem dX6_addGuest_15 : decode cX6_addGuest 15 = .ok (.iconst 1, 1) := by decide +kernel
theorem dX6_addGuest_16 : decode cX6_addGuest 16 = .ok (.invokevirtual 45, 3) := by decide +kernel
theorem dX6_addGuest_19 : decode cX6_addGuest 19 = .ok (.ireturn, 1) := by decide +kernel
theorem dX6_addGuest_2 : decode cX6_addGuest 2 = .ok (.putfield 20, 3) := by decide +kernel
theorem dX6_addGuest_5 : decode cX6_addGuest 5 = .ok (.aload_n 0, 1) := by decide +kernel
theorem dX6_addGuest_6 : decode cX6_addGuest 6 = .ok (.iload_n 1, 1) := by decide +kernel
theorem dX6_addGuest_7 : decode cX6_addGuest 7 = .ok (.iload_n 2, 1) := by decide +kernel
theorem dX6_addGuest_8 : decode cX6_addGuest 8 = .ok (.invokevirtual 68, 3) := by decide +kernel
theorem dX6_addLift_0 : decode cX6_addLift 0 = .ok (.aload_n 0, 1) := by decide +kernel
theorem dX6_addLift_1 : decode cX6_addLift 1 = .ok (.iconst 0, 1) := by decide +kernel
theorem dX6_addLift_10 : decode cX6_addLift 10 = .ok (.if_icmp .ne 9, 3) := by decide +kernel
theorem dX6_addLift_19 : decode cX6_addLift 19 = .ok (.aload_n 0, 1) := by decide +kernel
theorem dX6_addLift_2 : decode cX6_addLift 2 = .ok (.putfield 20, 3) := by decide +kernel
theorem dX6_addLift_20 : decode cX6_addLift 20 = .ok (.aload_n 0, 1) := by decide +kernel
theorem dX6_addLift_21 : decode cX6_addLift 21 = .ok (.getfield 31, 3) := by decide +kernel
theorem dX6_addLift_24 : decode cX6_addLift 24 = .ok (.iconst 1, 1) := by decide +kernel
theorem dX6_addLift_25 : decode cX6_addLift 25 = .ok (.iconst 1, 1) := by decide +kernel
theorem dX6_addLift_26 : decode cX6_addLift 26 = .ok (.invokevirtual 56, 3) := by decide +kernel
theorem dX6_addLift_29 : decode cX6_addLift 29 = .ok (.aload_n 0, 1) := by decide +kernel
theorem dX6_addLift_30 : decode cX6_addLift 30 = .ok (.dup, 1) := by decide +kernel
theorem dX6_addLift_31 : decode cX6_addLift 31 = .ok (.getfield 31, 3) := by decide +kernel
theorem dX6_addLift_34 : decode cX6_addLift 34 = .ok (.iconst 1, 1) := by decide +kernel
theorem dX6_addLift_35 : decode cX6_addLift 35 = .ok (.iadd, 1) := by decide +kernel
theorem dX6_addLift_36 : decode cX6_addLift 36 = .ok (.putfield 31, 3) := by decide +kernel
theorem dX6_addLift_39 : decode cX6_addLift 39 = .ok (.aload_n 0, 1) := by decide +kernel
theorem dX6_addLift_40 : decode cX6_addLift 40 = .ok (.getfield 31, 3) := by decide +kernel
theorem dX6_addLift_43 : decode cX6_addLift 43 = .ok (.iconst 1, 1) := by decide +kernel
theorem dX6_addLift_44 : decode cX6_addLift 44 = .ok (.isub, 1) := by decide +kernel
theorem dX6_addLift_45 : decode cX6_addLift 45 = .ok (.ireturn, 1) := by decide +kernel
theorem dX6_addLift_5 : decode cX6_addLift 5 = .ok (.aload_n 0, 1) := by decide +kernel
theorem dX6_addLift_6 : decode cX6_addLift 6 = .ok (.getfield 31, 3) := by decide +kernel
theorem dX6_addLift_9 : decode cX6_addLift 9 = .ok (.iconst 4, 1) := by decide +kernel
theorem dX6_advise_0 : decode cX6_advise 0 = .ok (.aload_n 0, 1) := by decide +kernel
theorem dX6_advise_1 : decode cX6_advise 1 = .ok (.iconst 0, 1) := by decide +kernel
theorem dX6_advise_10 : decode cX6_advise 10 = .ok (.ifCond .ne 9, 3) := by decide +kernel
theorem dX6_advise_13 : decode cX6_advise 13 = .ok (.aload_n 0, 1) := by decide +kernel
theorem dX6_advise_14 : decode cX6_advise 14 = .ok (.iconst 1, 1) := by decide +kernel
theorem dX6_advise_15 : decode cX6_advise 15 = .ok (.invokevirtual 45, 3) := by decide +kernel
theorem dX6_advise_18 : decode cX6_advise 18 = .ok (.ireturn, 1) := by decide +kernel
theorem dX6_advise_2 : decode cX6_advise 2 = .ok (.putfield 20, 3) := by decide +kernel
theorem dX6_advise_5 : decode cX6_advise 5 = .ok (.aload_n 0, 1) := by decide +kernel
theorem dX6_advise_6 : decode cX6_advise 6 = .ok (.iload_n 1, 1) := by decide +kernel
theorem dX6_advise_7 : decode cX6_advise 7 = .ok (.invokevirtual 81, 3) := by decide +kernel
theorem dX6_byteAt_0 : decode cX6_byteAt 0 = .ok (.aload_n 0, 1) := by decide +kernel
theorem dX6_byteAt_1 : decode cX6_byteAt 1 = .ok (.iconst 0, 1) := by decide +kernel
theorem dX6_byteAt_11 : decode cX6_byteAt 11 = .ok (.invokevirtual 111, 3) := by decide +kernel
theorem dX6_byteAt_14 : decode cX6_byteAt 14 = .ok (.iconst 1, 1) := by decide +kernel
theorem dX6_byteAt_15 : decode cX6_byteAt 15 = .ok (.isub, 1) := by decide +kernel
theorem dX6_byteAt_16 : decode cX6_byteAt 16 = .ok (.invokestatic 27, 3) := by decide +kernel
theorem dX6_byteAt_19 : decode cX6_byteAt 19 = .ok (.ifCond .eq 14, 3) := by decide +kernel
theorem dX6_byteAt_2 : decode cX6_byteAt 2 = .ok (.putfield 20, 3) := by decide +kernel
theorem dX6_byteAt_33 : decode cX6_byteAt 33 = .ok (.aload_n 0, 1) := by decide +kernel
theorem dX6_byteAt_34 : decode cX6_byteAt 34 = .ok (.iconst 1, 1) := by decide +kernel
theorem dX6_byteAt_35 : decode cX6_byteAt 35 = .ok (.invokevirtual 45, 3) := by decide +kernel
theorem dX6_byteAt_38 : decode cX6_byteAt 38 = .ok (.ireturn, 1) := by decide +kernel
theorem dX6_byteAt_5 : decode cX6_byteAt 5 = .ok (.iload_n 1, 1) := by decide +kernel
theorem dX6_byteAt_6 : decode cX6_byteAt 6 = .ok (.iconst 0, 1) := by decide +kernel
theorem dX6_byteAt_7 : decode cX6_byteAt 7 = .ok (.aload_n 0, 1) := by decide +kernel
theorem dX6_byteAt_8 : decode cX6_byteAt 8 = .ok (.getfield 16, 3) := by decide +kernel
theorem dX6_count_0 : decode cX6_count 0 = .ok (.aload_n 0, 1) := by decide +kernel
theorem dX6_count_1 : decode cX6_count 1 = .ok (.iconst 0, 1) := by decide +kernel
theorem dX6_count_12 : decode cX6_count 12 = .ok (.ifCond .eq 11, 3) := by decide +kernel
theorem dX6_count_15 : decode cX6_count 15 = .ok (.aload_n 0, 1) := by decide +kernel
theorem dX6_count_16 : decode cX6_count 16 = .ok (.iload_n 1, 1) := by decide +kernel
theorem dX6_count_17 : decode cX6_count 17 = .ok (.invokevirtual 115, 3) := by decide +kernel
theorem dX6_count_2 : decode cX6_count 2 = .ok (.putfield 20, 3) := by decide +kernel
theorem dX6_count_20 : decode cX6_count 20 = .ok (.goto 8, 3) := by decide +kernel
theorem dX6_count_23 : decode cX6_count 23 = .ok (.aload_n 0, 1) := by decide +kernel
theorem dX6_count_24 : decode cX6_count 24 = .ok (.iconst 1, 1) := by decide +kernel
theorem dX6_count_25 : decode cX6_count 25 = .ok (.invokevirtual 45, 3) := by decide +kernel
theorem dX6_count_28 : decode cX6_count 28 = .ok (.ireturn, 1) := by decide +kernel
theorem dX6_count_5 : decode cX6_count 5 = .ok (.iload_n 1, 1) := by decide +kernel
theorem dX6_count_6 : decode cX6_count 6 = .ok (.iconst 0, 1) := by decide +kernel
theorem dX6_count_7 : decode cX6_count 7 = .ok (.bipush 7, 2) := by decide +kernel
theorem dX6_count_9 : decode cX6_count 9 = .ok (.invokestatic 27, 3) := by decide +kernel
theorem dX6_counted_0 : decode cX6_counted 0 = .ok (.iconst 0, 1) := by decide +kernel
theorem dX6_counted_1 : decode cX6_counted 1 = .ok (.istore_n 2, 1) := by decide +kernel
theorem dX6_counted_10 : decode cX6_counted 10 = .ok (.getfield 34, 3) := by decide +kernel
theorem dX6_counted_100 : decode cX6_counted 100 = .ok (.aload_n 0, 1) := by decide +kernel
theorem dX6_counted_101 : decode cX6_counted 101 = .ok (.getfield 24, 3) := by decide +kernel
theorem dX6_counted_104 : decode cX6_counted 104 = .ok (.ireturn, 1) := by decide +kernel
theorem dX6_counted_105 : decode cX6_counted 105 = .ok (.aload_n 0, 1) := by decide +kernel
theorem dX6_counted_106 : decode cX6_counted 106 = .ok (.getfield 31, 3) := by decide +kernel
theorem dX6_counted_109 : decode cX6_counted 109 = .ok (.ireturn, 1) := by decide +kernel
theorem dX6_counted_110 : decode cX6_counted 110 = .ok (.aload_n 0, 1) := by decide +kernel
theorem dX6_counted_111 : decode cX6_counted 111 = .ok (.getfield 34, 3) := by decide +kernel
theorem dX6_counted_114 : decode cX6_counted 114 = .ok (.ireturn, 1) := by decide +kernel
theorem dX6_counted_115 : decode cX6_counted 115 = .ok (.iload_n 2, 1) := by decide +kernel
theorem dX6_counted_116 : decode cX6_counted 116 = .ok (.ireturn, 1) := by decide +kernel
theorem dX6_counted_117 : decode cX6_counted 117 = .ok (.iload_n 3, 1) := by decide +kernel
theorem dX6_counted_118 : decode cX6_counted 118 = .ok (.ireturn, 1) := by decide +kernel
theorem dX6_counted_119 : decode cX6_counted 119 = .ok (.aload_n 0, 1) := by decide +kernel
theorem dX6_counted_120 : decode cX6_counted 120 = .ok (.getfield 9, 3) := by decide +kernel
theorem dX6_counted_123 : decode cX6_counted 123 = .ok (.bipush 117, 2) := by decide +kernel
theorem dX6_counted_125 : decode cX6_counted 125 = .ok (.iaload, 1) := by decide +kernel
theorem dX6_counted_126 : decode cX6_counted 126 = .ok (.ireturn, 1) := by decide +kernel
theorem dX6_counted_127 : decode cX6_counted 127 = .ok (.aload_n 0, 1) := by decide +kernel
theorem dX6_counted_128 : decode cX6_counted 128 = .ok (.getfield 9, 3) := by decide +kernel
theorem dX6_counted_13 : decode cX6_counted 13 = .ok (.if_icmp .ge 45, 3) := by decide +kernel
theorem dX6_counted_131 : decode cX6_counted 131 = .ok (.bipush 118, 2) := by decide +kernel
theorem dX6_counted_133 : decode cX6_counted 133 = .ok (.iaload, 1) := by decide +kernel
theorem dX6_counted_134 : decode cX6_counted 134 = .ok (.ireturn, 1) := by decide +kernel
theorem dX6_counted_135 : decode cX6_counted 135 = .ok (.aload_n 0, 1) := by decide +kernel
theorem dX6_counted_136 : decode cX6_counted 136 = .ok (.getfield 16, 3) := by decide +kernel
theorem dX6_counted_139 : decode cX6_counted 139 = .ok (.invokevirtual 111, 3) := by decide +kernel
theorem dX6_counted_142 : decode cX6_counted 142 = .ok (.ireturn, 1) := by decide +kernel
theorem dX6_counted_2 : decode cX6_counted 2 = .ok (.iconst 0, 1) := by decide +kernel
theorem dX6_counted_3 : decode cX6_counted 3 = .ok (.istore_n 3, 1) := by decide +kernel
theorem dX6_counted_4 : decode cX6_counted 4 = .ok (.iconst 0, 1) := by decide +kernel
theorem dX6_counted_5 : decode cX6_counted 5 = .ok (.istore 4, 2) := by decide +kernel
theorem dX6_counted_58 : decode cX6_counted 58 = .ok (.iload_n 1, 1) := by decide +kernel
theorem dX6_counted_59 : decode cX6_counted 59 = .ok (.tableswitch 76 0 6 #[41, 46, 51, 56, 58, 60, 68], 41) := by decide +kernel
theorem dX6_counted_7 : decode cX6_counted 7 = .ok (.iload 4, 2) := by decide +kernel
theorem dX6_counted_9 : decode cX6_counted 9 = .ok (.aload_n 0, 1) := by decide +kernel
theorem dX6_digest_0 : decode cX6_digest 0 = .ok (.aload_n 0, 1) := by decide +kernel
theorem dX6_digest_1 : decode cX6_digest 1 = .ok (.iconst 0, 1) := by decide +kernel
theorem dX6_digest_10 : decode cX6_digest 10 = .ok (.istore_n 3, 1) := by decide +kernel
theorem dX6_digest_11 : decode cX6_digest 11 = .ok (.iload_n 3, 1) := by decide +kernel
theorem dX6_digest_12 : decode cX6_digest 12 = .ok (.bipush 8, 2) := by decide +kernel
theorem dX6_digest_14 : decode cX6_digest 14 = .ok (.if_icmp .ge 22, 3) := by decide +kernel
theorem dX6_digest_162 : decode cX6_digest 162 = .ok (.iconst 0, 1) := by decide +kernel
theorem dX6_digest_163 : decode cX6_digest 163 = .ok (.istore_n 3, 1) := by decide +kernel
theorem dX6_digest_164 : decode cX6_digest 164 = .ok (.iload_n 3, 1) := by decide +kernel
theorem dX6_digest_165 : decode cX6_digest 165 = .ok (.aload_n 0, 1) := by decide +kernel
theorem dX6_digest_166 : decode cX6_digest 166 = .ok (.getfield 34, 3) := by decide +kernel
theorem dX6_digest_169 : decode cX6_digest 169 = .ok (.if_icmp .ge 40, 3) := by decide +kernel
theorem dX6_digest_17 : decode cX6_digest 17 = .ok (.lload_n 1, 1) := by decide +kernel
theorem dX6_digest_18 : decode cX6_digest 18 = .ok (.ldc2_w 166, 3) := by decide +kernel
theorem dX6_digest_2 : decode cX6_digest 2 = .ok (.putfield 20, 3) := by decide +kernel
theorem dX6_digest_209 : decode cX6_digest 209 = .ok (.iconst 0, 1) := by decide +kernel
theorem dX6_digest_21 : decode cX6_digest 21 = .ok (.lmul, 1) := by decide +kernel
theorem dX6_digest_210 : decode cX6_digest 210 = .ok (.istore_n 3, 1) := by decide +kernel
theorem dX6_digest_211 : decode cX6_digest 211 = .ok (.iload_n 3, 1) := by decide +kernel
theorem dX6_digest_212 : decode cX6_digest 212 = .ok (.aload_n 0, 1) := by decide +kernel
theorem dX6_digest_213 : decode cX6_digest 213 = .ok (.getfield 16, 3) := by decide +kernel
theorem dX6_digest_216 : decode cX6_digest 216 = .ok (.invokevirtual 111, 3) := by decide +kernel
theorem dX6_digest_219 : decode cX6_digest 219 = .ok (.if_icmp .ge 25, 3) := by decide +kernel
theorem dX6_digest_22 : decode cX6_digest 22 = .ok (.aload_n 0, 1) := by decide +kernel
theorem dX6_digest_23 : decode cX6_digest 23 = .ok (.iload_n 3, 1) := by decide +kernel
theorem dX6_digest_24 : decode cX6_digest 24 = .ok (.invokevirtual 115, 3) := by decide +kernel
theorem dX6_digest_244 : decode cX6_digest 244 = .ok (.lload_n 1, 1) := by decide +kernel
theorem dX6_digest_245 : decode cX6_digest 245 = .ok (.lreturn, 1) := by decide +kernel
theorem dX6_digest_27 : decode cX6_digest 27 = .ok (.i2l, 1) := by decide +kernel
theorem dX6_digest_28 : decode cX6_digest 28 = .ok (.ladd, 1) := by decide +kernel
theorem dX6_digest_29 : decode cX6_digest 29 = .ok (.lstore_n 1, 1) := by decide +kernel
theorem dX6_digest_30 : decode cX6_digest 30 = .ok (.iinc 3 1, 3) := by decide +kernel
theorem dX6_digest_33 : decode cX6_digest 33 = .ok (.goto (-22), 3) := by decide +kernel
theorem dX6_digest_36 : decode cX6_digest 36 = .ok (.iconst 0, 1) := by decide +kernel
theorem dX6_digest_37 : decode cX6_digest 37 = .ok (.istore_n 3, 1) := by decide +kernel
theorem dX6_digest_38 : decode cX6_digest 38 = .ok (.iload_n 3, 1) := by decide +kernel
theorem dX6_digest_39 : decode cX6_digest 39 = .ok (.aload_n 0, 1) := by decide +kernel
theorem dX6_digest_40 : decode cX6_digest 40 = .ok (.getfield 24, 3) := by decide +kernel
theorem dX6_digest_43 : decode cX6_digest 43 = .ok (.if_icmp .ge 40, 3) := by decide +kernel
theorem dX6_digest_5 : decode cX6_digest 5 = .ok (.ldc2_w 164, 3) := by decide +kernel
theorem dX6_digest_8 : decode cX6_digest 8 = .ok (.lstore_n 1, 1) := by decide +kernel
theorem dX6_digest_83 : decode cX6_digest 83 = .ok (.iconst 0, 1) := by decide +kernel
theorem dX6_digest_84 : decode cX6_digest 84 = .ok (.istore_n 3, 1) := by decide +kernel
theorem dX6_digest_85 : decode cX6_digest 85 = .ok (.iload_n 3, 1) := by decide +kernel
theorem dX6_digest_86 : decode cX6_digest 86 = .ok (.aload_n 0, 1) := by decide +kernel
theorem dX6_digest_87 : decode cX6_digest 87 = .ok (.getfield 31, 3) := by decide +kernel
theorem dX6_digest_9 : decode cX6_digest 9 = .ok (.iconst 0, 1) := by decide +kernel
theorem dX6_digest_90 : decode cX6_digest 90 = .ok (.if_icmp .ge 72, 3) := by decide +kernel
theorem dX6_fail_0 : decode cX6_fail 0 = .ok (.aload_n 0, 1) := by decide +kernel
theorem dX6_fail_1 : decode cX6_fail 1 = .ok (.iload_n 1, 1) := by decide +kernel
theorem dX6_fail_2 : decode cX6_fail 2 = .ok (.putfield 20, 3) := by decide +kernel
theorem dX6_fail_5 : decode cX6_fail 5 = .ok (.iconst 0, 1) := by decide +kernel
theorem dX6_fail_6 : decode cX6_fail 6 = .ok (.ireturn, 1) := by decide +kernel
theorem dX6_floor_0 : decode cX6_floor 0 = .ok (.aload_n 0, 1) := by decide +kernel
theorem dX6_floor_1 : decode cX6_floor 1 = .ok (.iconst 0, 1) := by decide +kernel
theorem dX6_floor_10 : decode cX6_floor 10 = .ok (.ifCond .eq 21, 3) := by decide +kernel
theorem dX6_floor_2 : decode cX6_floor 2 = .ok (.putfield 20, 3) := by decide +kernel
theorem dX6_floor_31 : decode cX6_floor 31 = .ok (.aload_n 0, 1) := by decide +kernel
theorem dX6_floor_32 : decode cX6_floor 32 = .ok (.iconst 1, 1) := by decide +kernel
theorem dX6_floor_33 : decode cX6_floor 33 = .ok (.invokevirtual 45, 3) := by decide +kernel
theorem dX6_floor_36 : decode cX6_floor 36 = .ok (.ireturn, 1) := by decide +kernel
theorem dX6_floor_5 : decode cX6_floor 5 = .ok (.aload_n 0, 1) := by decide +kernel
theorem dX6_floor_6 : decode cX6_floor 6 = .ok (.iload_n 1, 1) := by decide +kernel
theorem dX6_floor_7 : decode cX6_floor 7 = .ok (.invokevirtual 37, 3) := by decide +kernel
theorem dX6_foresee_0 : decode cX6_foresee 0 = .ok (.aload_n 0, 1) := by decide +kernel
theorem dX6_foresee_1 : decode cX6_foresee 1 = .ok (.iconst 0, 1) := by decide +kernel
theorem dX6_foresee_10 : decode cX6_foresee 10 = .ok (.ifCond .ne 9, 3) := by decide +kernel
theorem dX6_foresee_13 : decode cX6_foresee 13 = .ok (.aload_n 0, 1) := by decide +kernel
theorem dX6_foresee_14 : decode cX6_foresee 14 = .ok (.iconst 1, 1) := by decide +kernel
theorem dX6_foresee_15 : decode cX6_foresee 15 = .ok (.invokevirtual 45, 3) := by decide +kernel
theorem dX6_foresee_18 : decode cX6_foresee 18 = .ok (.ireturn, 1) := by decide +kernel
theorem dX6_foresee_2 : decode cX6_foresee 2 = .ok (.putfield 20, 3) := by decide +kernel
theorem dX6_foresee_5 : decode cX6_foresee 5 = .ok (.aload_n 0, 1) := by decide +kernel
theorem dX6_foresee_6 : decode cX6_foresee 6 = .ok (.iload_n 1, 1) := by decide +kernel
theorem dX6_foresee_7 : decode cX6_foresee 7 = .ok (.invokevirtual 81, 3) := by decide +kernel
theorem dX6_guest_0 : decode cX6_guest 0 = .ok (.aload_n 0, 1) := by decide +kernel
theorem dX6_guest_1 : decode cX6_guest 1 = .ok (.iconst 0, 1) := by decide +kernel
theorem dX6_guest_10 : decode cX6_guest 10 = .ok (.ifCond .eq 22, 3) := by decide +kernel
theorem dX6_guest_2 : decode cX6_guest 2 = .ok (.putfield 20, 3) := by decide +kernel
theorem dX6_guest_32 : decode cX6_guest 32 = .ok (.aload_n 0, 1) := by decide +kernel
theorem dX6_guest_33 : decode cX6_guest 33 = .ok (.iconst 1, 1) := by decide +kernel
theorem dX6_guest_34 : decode cX6_guest 34 = .ok (.invokevirtual 45, 3) := by decide +kernel
theorem dX6_guest_37 : decode cX6_guest 37 = .ok (.ireturn, 1) := by decide +kernel
theorem dX6_guest_5 : decode cX6_guest 5 = .ok (.aload_n 0, 1) := by decide +kernel
theorem dX6_guest_6 : decode cX6_guest 6 = .ok (.iload_n 1, 1) := by decide +kernel
theorem dX6_guest_7 : decode cX6_guest 7 = .ok (.invokevirtual 81, 3) := by decide +kernel
theorem dX6_home_0 : decode cX6_home 0 = .ok (.aload_n 0, 1) := by decide +kernel
theorem dX6_home_1 : decode cX6_home 1 = .ok (.iconst 0, 1) := by decide +kernel
theorem dX6_home_12 : decode cX6_home 12 = .ok (.dconst 1, 1) := by decide +kernel
theorem dX6_home_13 : decode cX6_home 13 = .ok (.goto 15, 3) := by decide +kernel
theorem dX6_home_2 : decode cX6_home 2 = .ok (.putfield 20, 3) := by decide +kernel
theorem dX6_home_28 : decode cX6_home 28 = .ok (.dreturn, 1) := by decide +kernel
theorem dX6_home_5 : decode cX6_home 5 = .ok (.aload_n 0, 1) := by decide +kernel
theorem dX6_home_6 : decode cX6_home 6 = .ok (.getfield 34, 3) := by decide +kernel
theorem dX6_home_9 : decode cX6_home 9 = .ok (.ifCond .ne 7, 3) := by decide +kernel
theorem dX6_init_0 : decode cX6_init 0 = .ok (.aload_n 0, 1) := by decide +kernel
theorem dX6_init_1 : decode cX6_init 1 = .ok (.invokespecial 3, 3) := by decide +kernel
theorem dX6_init_12 : decode cX6_init 12 = .ok (.aload_n 0, 1) := by decide +kernel
theorem dX6_init_13 : decode cX6_init 13 = .ok (.new 13, 3) := by decide +kernel
theorem dX6_init_16 : decode cX6_init 16 = .ok (.dup, 1) := by decide +kernel
theorem dX6_init_17 : decode cX6_init 17 = .ok (.invokespecial 15, 3) := by decide +kernel
theorem dX6_init_20 : decode cX6_init 20 = .ok (.putfield 16, 3) := by decide +kernel
theorem dX6_init_23 : decode cX6_init 23 = .ok (.return_, 1) := by decide +kernel
theorem dX6_init_4 : decode cX6_init 4 = .ok (.aload_n 0, 1) := by decide +kernel
theorem dX6_init_5 : decode cX6_init 5 = .ok (.bipush 119, 2) := by decide +kernel
theorem dX6_init_7 : decode cX6_init 7 = .ok (.newarray .int, 2) := by decide +kernel
theorem dX6_init_9 : decode cX6_init 9 = .ok (.putfield 9, 3) := by decide +kernel
theorem dX6_isFloor_0 : decode cX6_isFloor 0 = .ok (.iload_n 1, 1) := by decide +kernel
theorem dX6_isFloor_1 : decode cX6_isFloor 1 = .ok (.iconst 0, 1) := by decide +kernel
theorem dX6_isFloor_11 : decode cX6_isFloor 11 = .ok (.ireturn, 1) := by decide +kernel
theorem dX6_isFloor_2 : decode cX6_isFloor 2 = .ok (.aload_n 0, 1) := by decide +kernel
theorem dX6_isFloor_3 : decode cX6_isFloor 3 = .ok (.getfield 24, 3) := by decide +kernel
theorem dX6_isFloor_6 : decode cX6_isFloor 6 = .ok (.iconst 1, 1) := by decide +kernel
theorem dX6_isFloor_7 : decode cX6_isFloor 7 = .ok (.isub, 1) := by decide +kernel
theorem dX6_isFloor_8 : decode cX6_isFloor 8 = .ok (.invokestatic 27, 3) := by decide +kernel
theorem dX6_isGuest_0 : decode cX6_isGuest 0 = .ok (.iload_n 1, 1) := by decide +kernel
theorem dX6_isGuest_1 : decode cX6_isGuest 1 = .ok (.iconst 0, 1) := by decide +kernel
theorem dX6_isGuest_11 : decode cX6_isGuest 11 = .ok (.ireturn, 1) := by decide +kernel
theorem dX6_isGuest_2 : decode cX6_isGuest 2 = .ok (.aload_n 0, 1) := by decide +kernel
theorem dX6_isGuest_3 : decode cX6_isGuest 3 = .ok (.getfield 34, 3) := by decide +kernel
theorem dX6_isGuest_6 : decode cX6_isGuest 6 = .ok (.iconst 1, 1) := by decide +kernel
theorem dX6_isGuest_7 : decode cX6_isGuest 7 = .ok (.isub, 1) := by decide +kernel
theorem dX6_isGuest_8 : decode cX6_isGuest 8 = .ok (.invokestatic 27, 3) := by decide +kernel
theorem dX6_isIn_0 : decode cX6_isIn 0 = .ok (.iload_n 0, 1) := by decide +kernel
theorem dX6_isIn_1 : decode cX6_isIn 1 = .ok (.iload_n 1, 1) := by decide +kernel
theorem dX6_isIn_10 : decode cX6_isIn 10 = .ok (.iconst 1, 1) := by decide +kernel
theorem dX6_isIn_11 : decode cX6_isIn 11 = .ok (.goto 4, 3) := by decide +kernel
theorem dX6_isIn_14 : decode cX6_isIn 14 = .ok (.iconst 0, 1) := by decide +kernel
theorem dX6_isIn_15 : decode cX6_isIn 15 = .ok (.ireturn, 1) := by decide +kernel
theorem dX6_isIn_2 : decode cX6_isIn 2 = .ok (.if_icmp .lt 12, 3) := by decide +kernel
theorem dX6_isIn_5 : decode cX6_isIn 5 = .ok (.iload_n 0, 1) := by decide +kernel
theorem dX6_isIn_6 : decode cX6_isIn 6 = .ok (.iload_n 2, 1) := by decide +kernel
theorem dX6_isIn_7 : decode cX6_isIn 7 = .ok (.if_icmp .gt 7, 3) := by decide +kernel
theorem dX6_isLift_0 : decode cX6_isLift 0 = .ok (.iload_n 1, 1) := by decide +kernel
theorem dX6_isLift_1 : decode cX6_isLift 1 = .ok (.iconst 0, 1) := by decide +kernel
theorem dX6_isLift_11 : decode cX6_isLift 11 = .ok (.ireturn, 1) := by decide +kernel
theorem dX6_isLift_2 : decode cX6_isLift 2 = .ok (.aload_n 0, 1) := by decide +kernel
theorem dX6_isLift_3 : decode cX6_isLift 3 = .ok (.getfield 31, 3) := by decide +kernel
theorem dX6_isLift_6 : decode cX6_isLift 6 = .ok (.iconst 1, 1) := by decide +kernel
theorem dX6_isLift_7 : decode cX6_isLift 7 = .ok (.isub, 1) := by decide +kernel
theorem dX6_isLift_8 : decode cX6_isLift 8 = .ok (.invokestatic 27, 3) := by decide +kernel
theorem dX6_isRoom_0 : decode cX6_isRoom 0 = .ok (.aload_n 0, 1) := by decide +kernel
theorem dX6_isRoom_1 : decode cX6_isRoom 1 = .ok (.iload_n 1, 1) := by decide +kernel
theorem dX6_isRoom_2 : decode cX6_isRoom 2 = .ok (.invokevirtual 37, 3) := by decide +kernel
theorem dX6_isRoom_28 : decode cX6_isRoom 28 = .ok (.iconst 0, 1) := by decide +kernel
theorem dX6_isRoom_29 : decode cX6_isRoom 29 = .ok (.ireturn, 1) := by decide +kernel
theorem dX6_isRoom_5 : decode cX6_isRoom 5 = .ok (.ifCond .eq 23, 3) := by decide +kernel
theorem dX6_lift_0 : decode cX6_lift 0 = .ok (.aload_n 0, 1) := by decide +kernel
theorem dX6_lift_1 : decode cX6_lift 1 = .ok (.iconst 0, 1) := by decide +kernel
theorem dX6_lift_10 : decode cX6_lift 10 = .ok (.ifCond .eq 21, 3) := by decide +kernel
theorem dX6_lift_2 : decode cX6_lift 2 = .ok (.putfield 20, 3) := by decide +kernel
theorem dX6_lift_31 : decode cX6_lift 31 = .ok (.aload_n 0, 1) := by decide +kernel
theorem dX6_lift_32 : decode cX6_lift 32 = .ok (.iconst 1, 1) := by decide +kernel
theorem dX6_lift_33 : decode cX6_lift 33 = .ok (.invokevirtual 45, 3) := by decide +kernel
theorem dX6_lift_36 : decode cX6_lift 36 = .ok (.ireturn, 1) := by decide +kernel
theorem dX6_lift_5 : decode cX6_lift 5 = .ok (.aload_n 0, 1) := by decide +kernel
theorem dX6_lift_6 : decode cX6_lift 6 = .ok (.iload_n 1, 1) := by decide +kernel
theorem dX6_lift_7 : decode cX6_lift 7 = .ok (.invokevirtual 62, 3) := by decide +kernel
theorem dX6_place_0 : decode cX6_place 0 = .ok (.aload_n 0, 1) := by decide +kernel
theorem dX6_place_1 : decode cX6_place 1 = .ok (.iconst 0, 1) := by decide +kernel
theorem dX6_place_11 : decode cX6_place 11 = .ok (.ifCond .eq 12, 3) := by decide +kernel
theorem dX6_place_2 : decode cX6_place 2 = .ok (.putfield 20, 3) := by decide +kernel
theorem dX6_place_23 : decode cX6_place 23 = .ok (.aload_n 0, 1) := by decide +kernel
theorem dX6_place_24 : decode cX6_place 24 = .ok (.iconst 1, 1) := by decide +kernel
theorem dX6_place_25 : decode cX6_place 25 = .ok (.invokevirtual 45, 3) := by decide +kernel
theorem dX6_place_28 : decode cX6_place 28 = .ok (.ireturn, 1) := by decide +kernel
theorem dX6_place_5 : decode cX6_place 5 = .ok (.aload_n 0, 1) := by decide +kernel
theorem dX6_place_6 : decode cX6_place 6 = .ok (.iload_n 1, 1) := by decide +kernel
theorem dX6_place_7 : decode cX6_place 7 = .ok (.iload_n 2, 1) := by decide +kernel
theorem dX6_place_8 : decode cX6_place 8 = .ok (.invokevirtual 68, 3) := by decide +kernel
theorem dX6_power_0 : decode cX6_power 0 = .ok (.iconst 1, 1) := by decide +kernel
theorem dX6_power_1 : decode cX6_power 1 = .ok (.istore_n 1, 1) := by decide +kernel
theorem dX6_power_10 : decode cX6_power 10 = .ok (.bipush 10, 2) := by decide +kernel
theorem dX6_power_12 : decode cX6_power 12 = .ok (.imul, 1) := by decide +kernel
theorem dX6_power_13 : decode cX6_power 13 = .ok (.istore_n 1, 1) := by decide +kernel
theorem dX6_power_14 : decode cX6_power 14 = .ok (.iinc 2 1, 3) := by decide +kernel
theorem dX6_power_17 : decode cX6_power 17 = .ok (.goto (-13), 3) := by decide +kernel
theorem dX6_power_2 : decode cX6_power 2 = .ok (.iconst 0, 1) := by decide +kernel
theorem dX6_power_20 : decode cX6_power 20 = .ok (.iload_n 1, 1) := by decide +kernel
theorem dX6_power_21 : decode cX6_power 21 = .ok (.ireturn, 1) := by decide +kernel
theorem dX6_power_3 : decode cX6_power 3 = .ok (.istore_n 2, 1) := by decide +kernel
theorem dX6_power_4 : decode cX6_power 4 = .ok (.iload_n 2, 1) := by decide +kernel
theorem dX6_power_5 : decode cX6_power 5 = .ok (.iload_n 0, 1) := by decide +kernel
theorem dX6_power_6 : decode cX6_power 6 = .ok (.if_icmp .ge 14, 3) := by decide +kernel
theorem dX6_power_9 : decode cX6_power 9 = .ok (.iload_n 1, 1) := by decide +kernel
theorem dX6_ringOne_0 : decode cX6_ringOne 0 = .ok (.iconst 0, 1) := by decide +kernel
theorem dX6_ringOne_1 : decode cX6_ringOne 1 = .ok (.istore_n 2, 1) := by decide +kernel
theorem dX6_ringOne_155 : decode cX6_ringOne 155 = .ok (.iconst 0, 1) := by decide +kernel
theorem dX6_ringOne_156 : decode cX6_ringOne 156 = .ok (.istore_n 2, 1) := by decide +kernel
theorem dX6_ringOne_157 : decode cX6_ringOne 157 = .ok (.iload_n 2, 1) := by decide +kernel
theorem dX6_ringOne_158 : decode cX6_ringOne 158 = .ok (.aload_n 0, 1) := by decide +kernel
theorem dX6_ringOne_159 : decode cX6_ringOne 159 = .ok (.getfield 31, 3) := by decide +kernel
theorem dX6_ringOne_162 : decode cX6_ringOne 162 = .ok (.if_icmp .ge 14, 3) := by decide +kernel
theorem dX6_ringOne_176 : decode cX6_ringOne 176 = .ok (.iconst 0, 1) := by decide +kernel
theorem dX6_ringOne_177 : decode cX6_ringOne 177 = .ok (.istore_n 2, 1) := by decide +kernel
theorem dX6_ringOne_178 : decode cX6_ringOne 178 = .ok (.iconst 0, 1) := by decide +kernel
theorem dX6_ringOne_179 : decode cX6_ringOne 179 = .ok (.istore_n 3, 1) := by decide +kernel
theorem dX6_ringOne_180 : decode cX6_ringOne 180 = .ok (.iload_n 3, 1) := by decide +kernel
theorem dX6_ringOne_181 : decode cX6_ringOne 181 = .ok (.aload_n 0, 1) := by decide +kernel
theorem dX6_ringOne_182 : decode cX6_ringOne 182 = .ok (.getfield 34, 3) := by decide +kernel
theorem dX6_ringOne_185 : decode cX6_ringOne 185 = .ok (.if_icmp .ge 25, 3) := by decide +kernel
theorem dX6_ringOne_2 : decode cX6_ringOne 2 = .ok (.iload_n 2, 1) := by decide +kernel
theorem dX6_ringOne_210 : decode cX6_ringOne 210 = .ok (.iload_n 2, 1) := by decide +kernel
theorem dX6_ringOne_211 : decode cX6_ringOne 211 = .ok (.ireturn, 1) := by decide +kernel
theorem dX6_ringOne_3 : decode cX6_ringOne 3 = .ok (.aload_n 0, 1) := by decide +kernel
theorem dX6_ringOne_38 : decode cX6_ringOne 38 = .ok (.aload_n 0, 1) := by decide +kernel
theorem dX6_ringOne_39 : decode cX6_ringOne 39 = .ok (.getfield 9, 3) := by decide +kernel
theorem dX6_ringOne_4 : decode cX6_ringOne 4 = .ok (.getfield 34, 3) := by decide +kernel
theorem dX6_ringOne_42 : decode cX6_ringOne 42 = .ok (.bipush 116, 2) := by decide +kernel
theorem dX6_ringOne_44 : decode cX6_ringOne 44 = .ok (.aload_n 0, 1) := by decide +kernel
theorem dX6_ringOne_45 : decode cX6_ringOne 45 = .ok (.getfield 9, 3) := by decide +kernel
theorem dX6_ringOne_48 : decode cX6_ringOne 48 = .ok (.bipush 116, 2) := by decide +kernel
theorem dX6_ringOne_50 : decode cX6_ringOne 50 = .ok (.iaload, 1) := by decide +kernel
theorem dX6_ringOne_51 : decode cX6_ringOne 51 = .ok (.iconst 5, 1) := by decide +kernel
theorem dX6_ringOne_52 : decode cX6_ringOne 52 = .ok (.invokestatic 90, 3) := by decide +kernel
theorem dX6_ringOne_55 : decode cX6_ringOne 55 = .ok (.irem, 1) := by decide +kernel
theorem dX6_ringOne_56 : decode cX6_ringOne 56 = .ok (.bipush 10, 2) := by decide +kernel
theorem dX6_ringOne_58 : decode cX6_ringOne 58 = .ok (.imul, 1) := by decide +kernel
theorem dX6_ringOne_59 : decode cX6_ringOne 59 = .ok (.iload_n 1, 1) := by decide +kernel
theorem dX6_ringOne_60 : decode cX6_ringOne 60 = .ok (.iadd, 1) := by decide +kernel
theorem dX6_ringOne_61 : decode cX6_ringOne 61 = .ok (.iastore, 1) := by decide +kernel
theorem dX6_ringOne_62 : decode cX6_ringOne 62 = .ok (.aload_n 0, 1) := by decide +kernel
theorem dX6_ringOne_63 : decode cX6_ringOne 63 = .ok (.getfield 9, 3) := by decide +kernel
theorem dX6_ringOne_66 : decode cX6_ringOne 66 = .ok (.bipush 117, 2) := by decide +kernel
theorem dX6_ringOne_68 : decode cX6_ringOne 68 = .ok (.dup2, 1) := by decide +kernel
theorem dX6_ringOne_69 : decode cX6_ringOne 69 = .ok (.iaload, 1) := by decide +kernel
theorem dX6_ringOne_7 : decode cX6_ringOne 7 = .ok (.if_icmp .ge 31, 3) := by decide +kernel
theorem dX6_ringOne_70 : decode cX6_ringOne 70 = .ok (.iconst 1, 1) := by decide +kernel
theorem dX6_ringOne_71 : decode cX6_ringOne 71 = .ok (.iadd, 1) := by decide +kernel
theorem dX6_ringOne_72 : decode cX6_ringOne 72 = .ok (.iastore, 1) := by decide +kernel
theorem dX6_ringOne_73 : decode cX6_ringOne 73 = .ok (.iconst 0, 1) := by decide +kernel
theorem dX6_ringOne_74 : decode cX6_ringOne 74 = .ok (.istore_n 2, 1) := by decide +kernel
theorem dX6_ringOne_75 : decode cX6_ringOne 75 = .ok (.iload_n 2, 1) := by decide +kernel
theorem dX6_ringOne_76 : decode cX6_ringOne 76 = .ok (.aload_n 0, 1) := by decide +kernel
theorem dX6_ringOne_77 : decode cX6_ringOne 77 = .ok (.getfield 24, 3) := by decide +kernel
theorem dX6_ringOne_80 : decode cX6_ringOne 80 = .ok (.if_icmp .ge 75, 3) := by decide +kernel
theorem dX6_ring_0 : decode cX6_ring 0 = .ok (.aload_n 0, 1) := by decide +kernel
theorem dX6_ring_1 : decode cX6_ring 1 = .ok (.iconst 0, 1) := by decide +kernel
theorem dX6_ring_11 : decode cX6_ring 11 = .ok (.ifCond .eq 13, 3) := by decide +kernel
theorem dX6_ring_14 : decode cX6_ring 14 = .ok (.aload_n 0, 1) := by decide +kernel
theorem dX6_ring_15 : decode cX6_ring 15 = .ok (.iload_n 1, 1) := by decide +kernel
theorem dX6_ring_16 : decode cX6_ring 16 = .ok (.iconst 1, 1) := by decide +kernel
theorem dX6_ring_17 : decode cX6_ring 17 = .ok (.iadd, 1) := by decide +kernel
theorem dX6_ring_18 : decode cX6_ring 18 = .ok (.invokevirtual 130, 3) := by decide +kernel
theorem dX6_ring_2 : decode cX6_ring 2 = .ok (.putfield 20, 3) := by decide +kernel
theorem dX6_ring_21 : decode cX6_ring 21 = .ok (.goto 8, 3) := by decide +kernel
theorem dX6_ring_24 : decode cX6_ring 24 = .ok (.aload_n 0, 1) := by decide +kernel
theorem dX6_ring_25 : decode cX6_ring 25 = .ok (.iconst 1, 1) := by decide +kernel
theorem dX6_ring_26 : decode cX6_ring 26 = .ok (.invokevirtual 45, 3) := by decide +kernel
theorem dX6_ring_29 : decode cX6_ring 29 = .ok (.ireturn, 1) := by decide +kernel
theorem dX6_ring_5 : decode cX6_ring 5 = .ok (.iload_n 1, 1) := by decide +kernel
theorem dX6_ring_6 : decode cX6_ring 6 = .ok (.iconst 0, 1) := by decide +kernel
theorem dX6_ring_7 : decode cX6_ring 7 = .ok (.iconst 3, 1) := by decide +kernel
theorem dX6_ring_8 : decode cX6_ring 8 = .ok (.invokestatic 27, 3) := by decide +kernel
theorem dX6_setDoor_0 : decode cX6_setDoor 0 = .ok (.aload_n 0, 1) := by decide +kernel
theorem dX6_setDoor_1 : decode cX6_setDoor 1 = .ok (.iconst 0, 1) := by decide +kernel
theorem dX6_setDoor_10 : decode cX6_setDoor 10 = .ok (.ifCond .eq 11, 3) := by decide +kernel
theorem dX6_setDoor_2 : decode cX6_setDoor 2 = .ok (.putfield 20, 3) := by decide +kernel
theorem dX6_setDoor_21 : decode cX6_setDoor 21 = .ok (.aload_n 0, 1) := by decide +kernel
theorem dX6_setDoor_22 : decode cX6_setDoor 22 = .ok (.iconst 1, 1) := by decide +kernel
theorem dX6_setDoor_23 : decode cX6_setDoor 23 = .ok (.invokevirtual 45, 3) := by decide +kernel
theorem dX6_setDoor_26 : decode cX6_setDoor 26 = .ok (.ireturn, 1) := by decide +kernel
theorem dX6_setDoor_5 : decode cX6_setDoor 5 = .ok (.aload_n 0, 1) := by decide +kernel
theorem dX6_setDoor_6 : decode cX6_setDoor 6 = .ok (.iload_n 1, 1) := by decide +kernel
theorem dX6_setDoor_7 : decode cX6_setDoor 7 = .ok (.invokevirtual 62, 3) := by decide +kernel
theorem dX6_setFl_0 : decode cX6_setFl 0 = .ok (.aload_n 0, 1) := by decide +kernel
theorem dX6_setFl_1 : decode cX6_setFl 1 = .ok (.getfield 9, 3) := by decide +kernel
theorem dX6_setFl_10 : decode cX6_setFl 10 = .ok (.iastore, 1) := by decide +kernel
theorem dX6_setFl_11 : decode cX6_setFl 11 = .ok (.return_, 1) := by decide +kernel
theorem dX6_setFl_4 : decode cX6_setFl 4 = .ok (.iconst 4, 1) := by decide +kernel
theorem dX6_setFl_5 : decode cX6_setFl 5 = .ok (.iload_n 1, 1) := by decide +kernel
theorem dX6_setFl_6 : decode cX6_setFl 6 = .ok (.imul, 1) := by decide +kernel
theorem dX6_setFl_7 : decode cX6_setFl 7 = .ok (.iload_n 2, 1) := by decide +kernel
theorem dX6_setFl_8 : decode cX6_setFl 8 = .ok (.iadd, 1) := by decide +kernel
theorem dX6_setFl_9 : decode cX6_setFl 9 = .ok (.iload_n 3, 1) := by decide +kernel
theorem dX6_setLi_0 : decode cX6_setLi 0 = .ok (.aload_n 0, 1) := by decide +kernel
theorem dX6_setLi_1 : decode cX6_setLi 1 = .ok (.getfield 9, 3) := by decide +kernel
theorem dX6_setLi_10 : decode cX6_setLi 10 = .ok (.iadd, 1) := by decide +kernel
theorem dX6_setLi_11 : decode cX6_setLi 11 = .ok (.iload_n 2, 1) := by decide +kernel
theorem dX6_setLi_12 : decode cX6_setLi 12 = .ok (.iadd, 1) := by decide +kernel
theorem dX6_setLi_13 : decode cX6_setLi 13 = .ok (.iload_n 3, 1) := by decide +kernel
theorem dX6_setLi_14 : decode cX6_setLi 14 = .ok (.iastore, 1) := by decide +kernel
theorem dX6_setLi_15 : decode cX6_setLi 15 = .ok (.return_, 1) := by decide +kernel
theorem dX6_setLi_4 : decode cX6_setLi 4 = .ok (.bipush 24, 2) := by decide +kernel
theorem dX6_setLi_6 : decode cX6_setLi 6 = .ok (.bipush 8, 2) := by decide +kernel
theorem dX6_setLi_8 : decode cX6_setLi 8 = .ok (.iload_n 1, 1) := by decide +kernel
theorem dX6_setLi_9 : decode cX6_setLi 9 = .ok (.imul, 1) := by decide +kernel
theorem dX6_setTune_0 : decode cX6_setTune 0 = .ok (.aload_n 0, 1) := by decide +kernel
theorem dX6_setTune_1 : decode cX6_setTune 1 = .ok (.iconst 0, 1) := by decide +kernel
theorem dX6_setTune_10 : decode cX6_setTune 10 = .ok (.ifCond .ne 9, 3) := by decide +kernel
theorem dX6_setTune_13 : decode cX6_setTune 13 = .ok (.aload_n 0, 1) := by decide +kernel
theorem dX6_setTune_14 : decode cX6_setTune 14 = .ok (.iconst 1, 1) := by decide +kernel
theorem dX6_setTune_15 : decode cX6_setTune 15 = .ok (.invokevirtual 45, 3) := by decide +kernel
theorem dX6_setTune_18 : decode cX6_setTune 18 = .ok (.ireturn, 1) := by decide +kernel
theorem dX6_setTune_2 : decode cX6_setTune 2 = .ok (.putfield 20, 3) := by decide +kernel
theorem dX6_setTune_5 : decode cX6_setTune 5 = .ok (.aload_n 0, 1) := by decide +kernel
theorem dX6_setTune_6 : decode cX6_setTune 6 = .ok (.iload_n 1, 1) := by decide +kernel
theorem dX6_setTune_7 : decode cX6_setTune 7 = .ok (.invokevirtual 37, 3) := by decide +kernel
theorem dX6_thrown_0 : decode cX6_thrown 0 = .ok (.aload_n 0, 1) := by decide +kernel
theorem dX6_thrown_1 : decode cX6_thrown 1 = .ok (.getfield 20, 3) := by decide +kernel
theorem dX6_thrown_4 : decode cX6_thrown 4 = .ok (.ireturn, 1) := by decide +kernel
theorem dX6_want_0 : decode cX6_want 0 = .ok (.aload_n 0, 1) := by decide +kernel
theorem dX6_want_1 : decode cX6_want 1 = .ok (.aload_n 0, 1) := by decide +kernel
theorem dX6_want_2 : decode cX6_want 2 = .ok (.iload_n 1, 1) := by decide +kernel
theorem dX6_want_22 : decode cX6_want 22 = .ok (.iconst 1, 1) := by decide +kernel
theorem dX6_want_23 : decode cX6_want 23 = .ok (.putfield 20, 3) := by decide +kernel
theorem dX6_want_26 : decode cX6_want 26 = .ok (.aload_n 0, 1) := by decide +kernel
theorem dX6_want_27 : decode cX6_want 27 = .ok (.getfield 20, 3) := by decide +kernel
theorem dX6_want_3 : decode cX6_want 3 = .ok (.invokevirtual 81, 3) := by decide +kernel
theorem dX6_want_30 : decode cX6_want 30 = .ok (.ifCond .eq 5, 3) := by decide +kernel
theorem dX6_want_33 : decode cX6_want 33 = .ok (.iconst 0, 1) := by decide +kernel
theorem dX6_want_34 : decode cX6_want 34 = .ok (.ireturn, 1) := by decide +kernel
theorem dX6_want_6 : decode cX6_want 6 = .ok (.ifCond .eq 16, 3) := by decide +kernel
theorem dX6_wouldTurn_0 : decode cX6_wouldTurn 0 = .ok (.aload_n 0, 1) := by decide +kernel
theorem dX6_wouldTurn_1 : decode cX6_wouldTurn 1 = .ok (.iconst 0, 1) := by decide +kernel
theorem dX6_wouldTurn_106 : decode cX6_wouldTurn 106 = .ok (.aload_n 0, 1) := by decide +kernel
theorem dX6_wouldTurn_107 : decode cX6_wouldTurn 107 = .ok (.getfield 9, 3) := by decide +kernel
theorem dX6_wouldTurn_11 : decode cX6_wouldTurn 11 = .ok (.ifCond .ne 9, 3) := by decide +kernel
theorem dX6_wouldTurn_110 : decode cX6_wouldTurn 110 = .ok (.bipush 116, 2) := by decide +kernel
theorem dX6_wouldTurn_112 : decode cX6_wouldTurn 112 = .ok (.iload_n 2, 1) := by decide +kernel
theorem dX6_wouldTurn_113 : decode cX6_wouldTurn 113 = .ok (.iastore, 1) := by decide +kernel
theorem dX6_wouldTurn_114 : decode cX6_wouldTurn 114 = .ok (.aload_n 0, 1) := by decide +kernel
theorem dX6_wouldTurn_115 : decode cX6_wouldTurn 115 = .ok (.getfield 9, 3) := by decide +kernel
theorem dX6_wouldTurn_118 : decode cX6_wouldTurn 118 = .ok (.bipush 117, 2) := by decide +kernel
theorem dX6_wouldTurn_120 : decode cX6_wouldTurn 120 = .ok (.dup2, 1) := by decide +kernel
theorem dX6_wouldTurn_121 : decode cX6_wouldTurn 121 = .ok (.iaload, 1) := by decide +kernel
theorem dX6_wouldTurn_122 : decode cX6_wouldTurn 122 = .ok (.iconst 1, 1) := by decide +kernel
theorem dX6_wouldTurn_123 : decode cX6_wouldTurn 123 = .ok (.isub, 1) := by decide +kernel
theorem dX6_wouldTurn_124 : decode cX6_wouldTurn 124 = .ok (.iastore, 1) := by decide +kernel
theorem dX6_wouldTurn_125 : decode cX6_wouldTurn 125 = .ok (.iload_n 3, 1) := by decide +kernel
theorem dX6_wouldTurn_126 : decode cX6_wouldTurn 126 = .ok (.ireturn, 1) := by decide +kernel
theorem dX6_wouldTurn_14 : decode cX6_wouldTurn 14 = .ok (.aload_n 0, 1) := by decide +kernel
theorem dX6_wouldTurn_15 : decode cX6_wouldTurn 15 = .ok (.iconst 1, 1) := by decide +kernel
theorem dX6_wouldTurn_16 : decode cX6_wouldTurn 16 = .ok (.invokevirtual 45, 3) := by decide +kernel
theorem dX6_wouldTurn_19 : decode cX6_wouldTurn 19 = .ok (.ireturn, 1) := by decide +kernel
theorem dX6_wouldTurn_2 : decode cX6_wouldTurn 2 = .ok (.putfield 20, 3) := by decide +kernel
theorem dX6_wouldTurn_20 : decode cX6_wouldTurn 20 = .ok (.aload_n 0, 1) := by decide +kernel
theorem dX6_wouldTurn_21 : decode cX6_wouldTurn 21 = .ok (.getfield 9, 3) := by decide +kernel
theorem dX6_wouldTurn_24 : decode cX6_wouldTurn 24 = .ok (.bipush 116, 2) := by decide +kernel
theorem dX6_wouldTurn_26 : decode cX6_wouldTurn 26 = .ok (.iaload, 1) := by decide +kernel
theorem dX6_wouldTurn_27 : decode cX6_wouldTurn 27 = .ok (.istore_n 2, 1) := by decide +kernel
theorem dX6_wouldTurn_28 : decode cX6_wouldTurn 28 = .ok (.aload_n 0, 1) := by decide +kernel
theorem dX6_wouldTurn_29 : decode cX6_wouldTurn 29 = .ok (.getfield 9, 3) := by decide +kernel
theorem dX6_wouldTurn_32 : decode cX6_wouldTurn 32 = .ok (.bipush 116, 2) := by decide +kernel
theorem dX6_wouldTurn_34 : decode cX6_wouldTurn 34 = .ok (.iload_n 2, 1) := by decide +kernel
theorem dX6_wouldTurn_35 : decode cX6_wouldTurn 35 = .ok (.iconst 5, 1) := by decide +kernel
theorem dX6_wouldTurn_36 : decode cX6_wouldTurn 36 = .ok (.invokestatic 90, 3) := by decide +kernel
theorem dX6_wouldTurn_39 : decode cX6_wouldTurn 39 = .ok (.irem, 1) := by decide +kernel
theorem dX6_wouldTurn_40 : decode cX6_wouldTurn 40 = .ok (.bipush 10, 2) := by decide +kernel
theorem dX6_wouldTurn_42 : decode cX6_wouldTurn 42 = .ok (.imul, 1) := by decide +kernel
theorem dX6_wouldTurn_43 : decode cX6_wouldTurn 43 = .ok (.iload_n 1, 1) := by decide +kernel
theorem dX6_wouldTurn_44 : decode cX6_wouldTurn 44 = .ok (.iadd, 1) := by decide +kernel
theorem dX6_wouldTurn_45 : decode cX6_wouldTurn 45 = .ok (.iconst 1, 1) := by decide +kernel
theorem dX6_wouldTurn_46 : decode cX6_wouldTurn 46 = .ok (.iadd, 1) := by decide +kernel
theorem dX6_wouldTurn_47 : decode cX6_wouldTurn 47 = .ok (.iastore, 1) := by decide +kernel
theorem dX6_wouldTurn_48 : decode cX6_wouldTurn 48 = .ok (.aload_n 0, 1) := by decide +kernel
theorem dX6_wouldTurn_49 : decode cX6_wouldTurn 49 = .ok (.getfield 9, 3) := by decide +kernel
theorem dX6_wouldTurn_5 : decode cX6_wouldTurn 5 = .ok (.iload_n 1, 1) := by decide +kernel
theorem dX6_wouldTurn_52 : decode cX6_wouldTurn 52 = .ok (.bipush 117, 2) := by decide +kernel
theorem dX6_wouldTurn_54 : decode cX6_wouldTurn 54 = .ok (.dup2, 1) := by decide +kernel
theorem dX6_wouldTurn_55 : decode cX6_wouldTurn 55 = .ok (.iaload, 1) := by decide +kernel
theorem dX6_wouldTurn_56 : decode cX6_wouldTurn 56 = .ok (.iconst 1, 1) := by decide +kernel
theorem dX6_wouldTurn_57 : decode cX6_wouldTurn 57 = .ok (.iadd, 1) := by decide +kernel
theorem dX6_wouldTurn_58 : decode cX6_wouldTurn 58 = .ok (.iastore, 1) := by decide +kernel
theorem dX6_wouldTurn_59 : decode cX6_wouldTurn 59 = .ok (.iconst 0, 1) := by decide +kernel
theorem dX6_wouldTurn_6 : decode cX6_wouldTurn 6 = .ok (.iconst 0, 1) := by decide +kernel
theorem dX6_wouldTurn_60 : decode cX6_wouldTurn 60 = .ok (.istore_n 3, 1) := by decide +kernel
theorem dX6_wouldTurn_61 : decode cX6_wouldTurn 61 = .ok (.iconst 0, 1) := by decide +kernel
theorem dX6_wouldTurn_62 : decode cX6_wouldTurn 62 = .ok (.istore 4, 2) := by decide +kernel
theorem dX6_wouldTurn_64 : decode cX6_wouldTurn 64 = .ok (.iload 4, 2) := by decide +kernel
theorem dX6_wouldTurn_66 : decode cX6_wouldTurn 66 = .ok (.aload_n 0, 1) := by decide +kernel
theorem dX6_wouldTurn_67 : decode cX6_wouldTurn 67 = .ok (.getfield 24, 3) := by decide +kernel
theorem dX6_wouldTurn_7 : decode cX6_wouldTurn 7 = .ok (.iconst 3, 1) := by decide +kernel
theorem dX6_wouldTurn_70 : decode cX6_wouldTurn 70 = .ok (.if_icmp .ge 36, 3) := by decide +kernel
theorem dX6_wouldTurn_8 : decode cX6_wouldTurn 8 = .ok (.invokestatic 27, 3) := by decide +kernel
theorem dX6_write_0 : decode cX6_write 0 = .ok (.aload_n 0, 1) := by decide +kernel
theorem dX6_write_1 : decode cX6_write 1 = .ok (.iconst 0, 1) := by decide +kernel
theorem dX6_write_10 : decode cX6_write 10 = .ok (.invokevirtual 141, 3) := by decide +kernel
theorem dX6_write_120 : decode cX6_write 120 = .ok (.iconst 0, 1) := by decide +kernel
theorem dX6_write_121 : decode cX6_write 121 = .ok (.istore_n 1, 1) := by decide +kernel
theorem dX6_write_122 : decode cX6_write 122 = .ok (.iload_n 1, 1) := by decide +kernel
theorem dX6_write_123 : decode cX6_write 123 = .ok (.aload_n 0, 1) := by decide +kernel
theorem dX6_write_124 : decode cX6_write 124 = .ok (.getfield 31, 3) := by decide +kernel
theorem dX6_write_127 : decode cX6_write 127 = .ok (.if_icmp .ge 67, 3) := by decide +kernel
theorem dX6_write_13 : decode cX6_write 13 = .ok (.iconst 0, 1) := by decide +kernel
theorem dX6_write_14 : decode cX6_write 14 = .ok (.istore_n 1, 1) := by decide +kernel
theorem dX6_write_15 : decode cX6_write 15 = .ok (.iload_n 1, 1) := by decide +kernel
theorem dX6_write_16 : decode cX6_write 16 = .ok (.aload_n 0, 1) := by decide +kernel
theorem dX6_write_17 : decode cX6_write 17 = .ok (.getfield 24, 3) := by decide +kernel
theorem dX6_write_194 : decode cX6_write 194 = .ok (.iconst 0, 1) := by decide +kernel
theorem dX6_write_195 : decode cX6_write 195 = .ok (.istore_n 1, 1) := by decide +kernel
theorem dX6_write_196 : decode cX6_write 196 = .ok (.iload_n 1, 1) := by decide +kernel
theorem dX6_write_197 : decode cX6_write 197 = .ok (.aload_n 0, 1) := by decide +kernel
theorem dX6_write_198 : decode cX6_write 198 = .ok (.getfield 34, 3) := by decide +kernel
theorem dX6_write_2 : decode cX6_write 2 = .ok (.putfield 20, 3) := by decide +kernel
theorem dX6_write_20 : decode cX6_write 20 = .ok (.if_icmp .ge 100, 3) := by decide +kernel
theorem dX6_write_201 : decode cX6_write 201 = .ok (.if_icmp .ge 116, 3) := by decide +kernel
theorem dX6_write_317 : decode cX6_write 317 = .ok (.aload_n 0, 1) := by decide +kernel
theorem dX6_write_318 : decode cX6_write 318 = .ok (.getfield 16, 3) := by decide +kernel
theorem dX6_write_321 : decode cX6_write 321 = .ok (.invokevirtual 111, 3) := by decide +kernel
theorem dX6_write_324 : decode cX6_write 324 = .ok (.ireturn, 1) := by decide +kernel
theorem dX6_write_5 : decode cX6_write 5 = .ok (.aload_n 0, 1) := by decide +kernel
theorem dX6_write_6 : decode cX6_write 6 = .ok (.getfield 16, 3) := by decide +kernel
theorem dX6_write_9 : decode cX6_write 9 = .ok (.iconst 0, 1) := by decide +kernel
def v_c_M_init : List Cond := .code yX6_init cX6_init 1 none :: ([Cond.methodLink RX6 3 objectInit, Cond.instanceMethod objectInit, Cond.code objectInit ⟨#[0xb1]⟩ 1 none, Cond.arrayClass .int, Cond.fieldLink RX6 9 "HotelOfBellsModel" "row" "[I", Cond.classLink RX6 13 RJ4, Cond.instantiable RJ4 4, Cond.initialized RJ4, Cond.code yJ4_init_da8c8 cJ4_init_da8c8 1 none, Cond.code yJ5_init_d00df cJ5_init_d00df 2 none, Cond.methodLink RJ5 3 objectInit, Cond.fieldLink RJ5 18 "java/lang/String" "COMPACT_STRINGS" "Z", Cond.arrayClass .byte, Cond.fieldLink RJ5 15 "java/lang/AbstractStringBuilder" "value" "[B", Cond.fieldLink RJ5 22 "java/lang/AbstractStringBuilder" "coder" "B", Cond.initialized RJ5, Cond.methodLink RJ4 1 yJ5_init_d00df, Cond.instanceMethod yJ5_init_d00df, Cond.methodLink RX6 15 yJ4_init_da8c8, Cond.instanceMethod yJ4_init_da8c8, Cond.fieldLink RX6 16 "HotelOfBellsModel" "paper" "Ljava/lang/StringBuilder;"] ++ (wsX60 ++ (wsJ40 ++ [])))
theorem u_c_M_init_X6 : ∀ w ∈ wsX60, w ∈ v_c_M_init := fun _ h => List.mem_cons_of_mem _ (List.mem_append_right _ (List.mem_append_left _ h))
theorem u_c_M_init_J4 : ∀ w ∈ wsJ40, w ∈ v_c_M_init := fun _ h => List.mem_cons_of_mem _ (List.mem_append_right _ (List.mem_append_right _ (List.mem_append_left _ h)))
theorem gg_c_M_init_c_SB_init : GoodIn v_c_M_init v_c_SB_init := goodIn_r _ [9, 10, 11, 2, 3, 12, 13, 14, 15, 16, 17, 18, 28, 29, 30, 31] (by rfl) (by decide +kernel)
set_option maxHeartbeats 4000000 in
set_option maxRecDepth 100000 in
theorem c_M_init (l : Launch) (hl9 : l.stackTraces = false) (dC : Nat → ClassId) (dI : Nat → Nat → Nat) (tE : Nat) (h0 : Nat) (sz : Nat) : Met l yX6_init v_c_M_init ({ frames := 3, cells := 3, slots := 139, locals := 53 }) (va_Pc [.ref h0] (Pre0 dC dI tE sz [] [(h0, .inr (11, [.int 0, .int 0, .int 0, .int 0, .null, .null]))])) (va_Qv (fun (_ : Unit) => True) (fun _ t => ∃ (qx0 : Nat), ∃ (qx1 : Nat), ∃ (qx2 : Nat), ∃ (cx0 : ClassId), ∃ (cx1 : ClassId), Pst dC dI [(cx0, .int), (cx1, .byte)] (va_A [(h0, .inr (11, [.int 0, .int 0, .int 0, .int 0, .null, .null]))] sz) [(h0, .inr (11, [.int 0, .int 0, .int 0, .int 0, .ref qx0, .ref qx1])), (qx0, .inl (cx0, 119, .inl (fun _ => 0))), (qx1, .inr (1, [.ref qx2, .int 0, .int 0, .int 0])), (qx2, .inl (cx1, 16, .inl (fun _ => 0)))] t) (va_A [(h0, .inr (11, [.int 0, .int 0, .int 0, .int 0, .null, .null]))] sz)) 3 139 (va_A [(h0, .inr (11, [.int 0, .int 0, .int 0, .int 0, .null, .null]))] sz) := by
  refine Met.ofW (cc := cX6_init) (maxL := 1) (ret := none) (by decide) rfl ?_
  intro p e s m args below meth c s₁ B hml hv
  obtain ⟨rfl, hsz, hP, hK, hD0, hT⟩ := hv
  have hx := B.exec
  have hb := B.bytes
  have hr := B.returns
  have hts := atoms_spec (ws := v_c_M_init) B.pre
  have hown : s.vm.findClass RX6 = some m.cls := findClass_of_methodNamed B.named
  have hlocks := B.notSynchronized
  have hin : meth.name = "<init>" := (name_of_methodNamed B.named B.method).1
  subst hsz
  have hD := hD0.self (sz := s.heap.size)
  generalize hAe : va_A [(h0, .inr (11, [.int 0, .int 0, .int 0, .int 0, .null, .null]))] s.heap.size = A at hD hT ⊢
  have hA : ∀ q : Nat, s.heap.size ≤ q → A q := fun q h => by rw [← hAe]; exact Or.inr h
  have hS : va_S A s.heap s.heap [] := va_S.rf
  have hl := lv_entry ([.ref h0]) (n := 1) (Nat.le_of_ble_eq_true rfl)
  rw [lg_entry_eq]
  generalize (lg_sl ([.ref h0]) ++ List.replicate (1 - (lg_sl ([.ref h0])).length) Slot.unset).toArray = ls at hl ⊢
  have hl : lv_has ls 1 [(0, .ref h0)] := hl
  refine lv_aload_n hx hb dX6_init_0 rfl (lv_at hl 0 rfl) ?_
  refine W.objInit hx hb hown (hts (.methodLink RX6 3 objectInit) (List.mem_of_getElem? (i := 1) rfl)) (hts (.instanceMethod objectInit) (List.mem_of_getElem? (i := 2) rfl)) (hts (.code objectInit ⟨#[0xb1]⟩ 1 none) (List.mem_of_getElem? (i := 3) rfl)) rfl (by rw [hml]; exact hl.1) rfl dX6_init_1 (Nat.le_of_ble_eq_true rfl) (Nat.le_of_ble_eq_true rfl) ?_
  refine W.eq (g2 := F0 m 4 ls []) rfl ?_
  refine lv_aload_n hx hb dX6_init_4 rfl (lv_at hl 0 rfl) ?_
  refine lv_bipush (v := 119) hx hb dX6_init_5 (by decide) ?_
  refine va_newa (atype := .int) (ty := .int) (N' := 119) (a0 := (119, .inl (fun _ => 0))) hx hb (hts (.arrayClass .int) (List.mem_of_getElem? (i := 4) rfl)) rfl hK hP hD hS hA (fun _ => rfl) (by decide) (by decide) (Nat.le_of_ble_eq_true rfl) (Nat.le_of_ble_eq_true rfl) (Nat.le_of_ble_eq_true rfl) dX6_init_7 (fun q_1 cA_2 H hK hP hD hS => ?_)
  have hP : va_P (dC, dI) vwCl [(h0, .inr (11, [.int 0, .int 0, .int 0, .int 0, .null, .null])), (q_1, .inl (cA_2, 119, .inl (fun _ => 0)))] H := hP
  have hD : va_D A [(h0, .inr (11, [.int 0, .int 0, .int 0, .int 0, .null, .null])), (q_1, .inl (cA_2, 119, .inl (fun _ => 0)))] := hD
  have hK : va_K (dC, dI) vwCl [(cA_2, .int)] s := hK
  refine W.widen (k := 1) (n := 119) (by omega) (by omega) ?_
  refine va_put (D := (dC, dI)) (ci := 11) (v := .ref q_1) (ty := .array .int) (C := RX6) (T := TX6) (N := 6) hx hb hts u_c_M_init_X6 tyX6 tyX6_ok nmX6 hown hK hP hD hS 0 rfl rfl 4 (by decide) (hts (.fieldLink RX6 9 "HotelOfBellsModel" "row" "[I") (List.mem_of_getElem? (i := 5) rfl)) (fun _ h9 => h9) rfl (by decide +kernel) rfl rfl (Nat.le_of_ble_eq_true rfl) dX6_init_9 (fun H locs hP hD hS => ?_)
  have hP : va_P (dC, dI) vwCl [(h0, .inr (11, [.int 0, .int 0, .int 0, .int 0, .ref q_1, .null])), (q_1, .inl (cA_2, 119, .inl (fun _ => 0)))] H := hP
  have hD : va_D A [(h0, .inr (11, [.int 0, .int 0, .int 0, .int 0, .ref q_1, .null])), (q_1, .inl (cA_2, 119, .inl (fun _ => 0)))] := hD
  refine lv_aload_n hx hb dX6_init_12 rfl (lv_at hl 0 rfl) ?_
  refine va_new (ci := 1) (fs := [.null, .int 0, .int 0, .int 0]) (C := RJ4) (T := TJ4) (N := 4) hx hb hts u_c_M_init_J4 tyJ4 tyJ4_ok hown (hts (.classLink RX6 13 RJ4) (List.mem_of_getElem? (i := 6) rfl)) (hts (.instantiable RJ4 4) (List.mem_of_getElem? (i := 7) rfl)) (hts (.initialized RJ4) (List.mem_of_getElem? (i := 8) rfl)) hK hP hD hS hA rfl (fun j hj => by rcases (show j = 0 ∨ j = 1 ∨ j = 2 ∨ j = 3 by omega) with rfl | rfl | rfl | rfl <;> rfl) (Nat.le_of_ble_eq_true rfl) (Nat.le_of_ble_eq_true rfl) dX6_init_13 (fun q_3 H hP hD hS => ?_)
  have hP : va_P (dC, dI) vwCl [(h0, .inr (11, [.int 0, .int 0, .int 0, .int 0, .ref q_1, .null])), (q_1, .inl (cA_2, 119, .inl (fun _ => 0))), (q_3, .inr (1, [.null, .int 0, .int 0, .int 0]))] H := hP
  have hD : va_D A [(h0, .inr (11, [.int 0, .int 0, .int 0, .int 0, .ref q_1, .null])), (q_1, .inl (cA_2, 119, .inl (fun _ => 0))), (q_3, .inr (1, [.null, .int 0, .int 0, .int 0]))] := hD
  refine W.widen (k := 2) (n := 123) (by omega) (by omega) ?_
  refine lv_dup hx hb dX6_init_16 rfl ?_
  have hPc := hP.sub (ws' := [(q_3, .inr (1, [.null, .int 0, .int 0, .int 0]))]) [2] rfl
  have hDc := hD.sub (ws' := [(q_3, .inr (1, [.null, .int 0, .int 0, .int 0]))]) [2] (by decide) rfl
  have hKc := hK.sub (tys' := []) [] rfl
  have hFc := va_free (wc := [(q_3, .inr (1, [.null, .int 0, .int 0, .int 0]))]) hD hS hA [2] rfl
  refine va_callv (va_runI (As := []) (rest := [.ref q_3, .ref h0]) ⟨hx, hb, hml, hown, hts⟩ (c_SB_init l hl9 dC dI tE q_3 _ ) (cwI 0 hts gg_c_M_init_c_SB_init rfl rfl rfl (hts (.initialized RJ4) (List.mem_of_getElem? (i := 8) rfl)) (hts (.methodLink RX6 15 yJ4_init_da8c8) (List.mem_of_getElem? (i := 19) rfl)) (hts (.instanceMethod yJ4_init_da8c8) (List.mem_of_getElem? (i := 20) rfl)) rfl (by decide +kernel) ⟨Nat.le_of_ble_eq_true rfl, Nat.le_of_ble_eq_true rfl⟩) ⟨Pre0.blind, Pre0.give hPc hKc hDc hT hS hFc⟩ rfl rfl hl.1 rfl (lv_room (Nat.le_of_ble_eq_true rfl)) dX6_init_17 ⟨Nat.le_of_ble_eq_true rfl, Nat.le_of_ble_eq_true rfl⟩) hS (fun q _ h => hFc q h) hFc (fun u t H1 locs ht hvm hw hB hz1 hk1 hS => ?_)
  obtain ⟨qx_5, cx_6, hP1, hK1, hD1⟩ := hB
  rw [ht] at hP1
  have hK1 := va_K.moved hvm.symm hK1
  obtain ⟨hP, hD⟩ := va_join (wr := [(h0, .inr (11, [.int 0, .int 0, .int 0, .int 0, .ref q_1, .null])), (q_1, .inl (cA_2, 119, .inl (fun _ => 0)))]) (w1 := [(q_3, .inr (1, [.ref qx_5, .int 0, .int 0, .int 0])), (qx_5, .inl (cx_6, 16, .inl (fun _ => 0)))]) hP hD [2] [0, 1] rfl rfl (by decide) (by decide) hk1 hFc hP1 hD1
  have hK := hK.app (hK1.sub (tys' := [(cx_6, .byte)]) [0] rfl)
  have hK : va_K (dC, dI) vwCl [(cA_2, .int), (cx_6, .byte)] s := hK
  generalize H1 = H at hP hS ⊢
  have hP : va_P (dC, dI) vwCl [(h0, .inr (11, [.int 0, .int 0, .int 0, .int 0, .ref q_1, .null])), (q_1, .inl (cA_2, 119, .inl (fun _ => 0))), (q_3, .inr (1, [.ref qx_5, .int 0, .int 0, .int 0])), (qx_5, .inl (cx_6, 16, .inl (fun _ => 0)))] H := hP
  have hD : va_D A [(h0, .inr (11, [.int 0, .int 0, .int 0, .int 0, .ref q_1, .null])), (q_1, .inl (cA_2, 119, .inl (fun _ => 0))), (q_3, .inr (1, [.ref qx_5, .int 0, .int 0, .int 0])), (qx_5, .inl (cx_6, 16, .inl (fun _ => 0)))] := hD
  refine W.widen (k := 3) (n := 139) (by omega) (by omega) ?_
  refine va_putF (D := (dC, dI)) (ci := 11) (v := .ref q_3) (ty := .object "java/lang/StringBuilder") (C := RX6) (T := TX6) (N := 6) hx hb hts u_c_M_init_X6 tyX6 tyX6_ok nmX6 hown hK hP hD hS 0 rfl rfl 5 (by decide) (hts (.fieldLink RX6 16 "HotelOfBellsModel" "paper" "Ljava/lang/StringBuilder;") (List.mem_of_getElem? (i := 21) rfl)) (fun _ h9 => h9) rfl hin rfl (by decide +kernel) rfl rfl (Nat.le_of_ble_eq_true rfl) dX6_init_20 (fun H locs hP hD hS => ?_)
  have hP : va_P (dC, dI) vwCl [(h0, .inr (11, [.int 0, .int 0, .int 0, .int 0, .ref q_1, .ref q_3])), (q_1, .inl (cA_2, 119, .inl (fun _ => 0))), (q_3, .inr (1, [.ref qx_5, .int 0, .int 0, .int 0])), (qx_5, .inl (cx_6, 16, .inl (fun _ => 0)))] H := hP
  have hD : va_D A [(h0, .inr (11, [.int 0, .int 0, .int 0, .int 0, .ref q_1, .ref q_3])), (q_1, .inl (cA_2, 119, .inl (fun _ => 0))), (q_3, .inr (1, [.ref qx_5, .int 0, .int 0, .int 0])), (qx_5, .inl (cx_6, 16, .inl (fun _ => 0)))] := hD
  have hP9 := hP.sub (ws' := [(h0, .inr (11, [.int 0, .int 0, .int 0, .int 0, .ref q_1, .ref q_3])), (q_1, .inl (cA_2, 119, .inl (fun _ => 0))), (q_3, .inr (1, [.ref qx_5, .int 0, .int 0, .int 0])), (qx_5, .inl (cx_6, 16, .inl (fun _ => 0)))]) [0, 1, 2, 3] rfl
  have hD9 := hD.sub (ws' := [(h0, .inr (11, [.int 0, .int 0, .int 0, .int 0, .ref q_1, .ref q_3])), (q_1, .inl (cA_2, 119, .inl (fun _ => 0))), (q_3, .inr (1, [.ref qx_5, .int 0, .int 0, .int 0])), (qx_5, .inl (cx_6, 16, .inl (fun _ => 0)))]) [0, 1, 2, 3] (by decide) rfl
  have hK9 := hK.sub (tys' := [(cA_2, .int), (cx_6, .byte)]) [0, 1] rfl
  exact W.vret hx hb hr (fun t ht hW => ⟨⟨(), rfl, trivial, q_1, q_3, qx_5, cA_2, cx_6, by rw [ht]; exact hP9, va_K.moved hW.alike hK9, hD9⟩, hS.F ht⟩) hS.2.2 dX6_init_23
def v_c_M_thrown : List Cond := .code yX6_thrown cX6_thrown 1 (some .int) :: ([Cond.fieldLink RX6 20 "HotelOfBellsModel" "thrown" "I"] ++ (wsX60 ++ []))
theorem u_c_M_thrown_X6 : ∀ w ∈ wsX60, w ∈ v_c_M_thrown := fun _ h => List.mem_cons_of_mem _ (List.mem_append_right _ (List.mem_append_left _ h))
set_option maxHeartbeats 4000000 in
set_option maxRecDepth 100000 in
theorem c_M_thrown (l : Launch) (hl9 : l.stackTraces = false) (dC : Nat → ClassId) (dI : Nat → Nat → Nat) (tE : Nat) (h0 : Nat) (rq : Nat) (sbq : Nat) (th : Int32) (nf : Int32) (nl : Int32) (ng : Int32) (sz : Nat) : Met l yX6_thrown v_c_M_thrown ({ frames := 0, cells := 0, slots := 0, locals := 0 }) (va_Pc [.ref h0] (Pre0 dC dI tE sz [] [(h0, .inr (11, [.int th, .int nf, .int nl, .int ng, .ref rq, .ref sbq]))])) (va_Qi (fun (r : Int32) (_ : Unit) => r = th) (fun _ t => Pst dC dI [] (va_A [(h0, .inr (11, [.int th, .int nf, .int nl, .int ng, .ref rq, .ref sbq]))] sz) [(h0, .inr (11, [.int th, .int nf, .int nl, .int ng, .ref rq, .ref sbq]))] t) (va_A [(h0, .inr (11, [.int th, .int nf, .int nl, .int ng, .ref rq, .ref sbq]))] sz)) 0 0 (va_A [(h0, .inr (11, [.int th, .int nf, .int nl, .int ng, .ref rq, .ref sbq]))] sz) := by
  refine Met.ofW (cc := cX6_thrown) (maxL := 1) (ret := (some .int)) (by decide) rfl ?_
  intro p e s m args below meth c s₁ B hml hv
  obtain ⟨rfl, hsz, hP, hK, hD0, hT⟩ := hv
  have hx := B.exec
  have hb := B.bytes
  have hr := B.returns
  have hts := atoms_spec (ws := v_c_M_thrown) B.pre
  have hown : s.vm.findClass RX6 = some m.cls := findClass_of_methodNamed B.named
  have hlocks := B.notSynchronized
  subst hsz
  have hD := hD0.self (sz := s.heap.size)
  generalize hAe : va_A [(h0, .inr (11, [.int th, .int nf, .int nl, .int ng, .ref rq, .ref sbq]))] s.heap.size = A at hD hT ⊢
  have hA : ∀ q : Nat, s.heap.size ≤ q → A q := fun q h => by rw [← hAe]; exact Or.inr h
  have hS : va_S A s.heap s.heap [] := va_S.rf
  have hl := lv_entry ([.ref h0]) (n := 1) (Nat.le_of_ble_eq_true rfl)
  rw [lg_entry_eq]
  generalize (lg_sl ([.ref h0]) ++ List.replicate (1 - (lg_sl ([.ref h0])).length) Slot.unset).toArray = ls at hl ⊢
  have hl : lv_has ls 1 [(0, .ref h0)] := hl
  refine lv_aload_n hx hb dX6_thrown_0 rfl (lv_at hl 0 rfl) ?_
  refine va_get (D := (dC, dI)) (ci := 11) (v := .int th) (C := RX6) (T := TX6) (N := 6) hx hb hts u_c_M_thrown_X6 hown hK hP 0 rfl rfl 0 (by decide) (hts (.fieldLink RX6 20 "HotelOfBellsModel" "thrown" "I") (List.mem_of_getElem? (i := 1) rfl)) (fun _ h9 => h9) rfl dX6_thrown_1 ?_
  have hP9 := hP.sub (ws' := [(h0, .inr (11, [.int th, .int nf, .int nl, .int ng, .ref rq, .ref sbq]))]) [0] rfl
  have hD9 := hD.sub (ws' := [(h0, .inr (11, [.int th, .int nf, .int nl, .int ng, .ref rq, .ref sbq]))]) [0] (by decide) rfl
  have hK9 := hK.sub (tys' := []) [] rfl
  exact W.iret (v := th) hx hb hr (fun t ht hW => ⟨⟨th, (), rfl, rfl, by rw [ht]; exact hP9, va_K.moved hW.alike hK9, hD9⟩, hS.F ht⟩) hS.2.2 dX6_thrown_4
def v_c_M_fail : List Cond := .code yX6_fail cX6_fail 2 (some .int) :: ([Cond.fieldLink RX6 20 "HotelOfBellsModel" "thrown" "I"] ++ (wsX60 ++ []))
theorem u_c_M_fail_X6 : ∀ w ∈ wsX60, w ∈ v_c_M_fail := fun _ h => List.mem_cons_of_mem _ (List.mem_append_right _ (List.mem_append_left _ h))
set_option maxHeartbeats 4000000 in
set_option maxRecDepth 100000 in
theorem c_M_fail (l : Launch) (hl9 : l.stackTraces = false) (dC : Nat → ClassId) (dI : Nat → Nat → Nat) (tE : Nat) (h0 : Nat) (rq : Nat) (sbq : Nat) (th : Int32) (nf : Int32) (nl : Int32) (ng : Int32) (p0 : Int32) (sz : Nat) : Met l yX6_fail v_c_M_fail ({ frames := 0, cells := 0, slots := 0, locals := 0 }) (va_Pc [.ref h0, .int p0] (Pre0 dC dI tE sz [] [(h0, .inr (11, [.int th, .int nf, .int nl, .int ng, .ref rq, .ref sbq]))])) (va_Qi (fun (r : Int32) (_ : Unit) => r = 0) (fun _ t => Pst dC dI [] (va_A [(h0, .inr (11, [.int th, .int nf, .int nl, .int ng, .ref rq, .ref sbq]))] sz) [(h0, .inr (11, [.int p0, .int nf, .int nl, .int ng, .ref rq, .ref sbq]))] t) (va_A [(h0, .inr (11, [.int th, .int nf, .int nl, .int ng, .ref rq, .ref sbq]))] sz)) 0 0 (va_A [(h0, .inr (11, [.int th, .int nf, .int nl, .int ng, .ref rq, .ref sbq]))] sz) := by
  refine Met.ofW (cc := cX6_fail) (maxL := 2) (ret := (some .int)) (by decide) rfl ?_
  intro p e s m args below meth c s₁ B hml hv
  obtain ⟨rfl, hsz, hP, hK, hD0, hT⟩ := hv
  have hx := B.exec
  have hb := B.bytes
  have hr := B.returns
  have hts := atoms_spec (ws := v_c_M_fail) B.pre
  have hown : s.vm.findClass RX6 = some m.cls := findClass_of_methodNamed B.named
  have hlocks := B.notSynchronized
  subst hsz
  have hD := hD0.self (sz := s.heap.size)
  generalize hAe : va_A [(h0, .inr (11, [.int th, .int nf, .int nl, .int ng, .ref rq, .ref sbq]))] s.heap.size = A at hD hT ⊢
  have hA : ∀ q : Nat, s.heap.size ≤ q → A q := fun q h => by rw [← hAe]; exact Or.inr h
  have hS : va_S A s.heap s.heap [] := va_S.rf
  have hl := lv_entry ([.ref h0, .int p0]) (n := 2) (Nat.le_of_ble_eq_true rfl)
  rw [lg_entry_eq]
  generalize (lg_sl ([.ref h0, .int p0]) ++ List.replicate (2 - (lg_sl ([.ref h0, .int p0])).length) Slot.unset).toArray = ls at hl ⊢
  have hl : lv_has ls 2 [(0, .ref h0), (1, .int p0)] := hl
  refine lv_aload_n hx hb dX6_fail_0 rfl (lv_at hl 0 rfl) ?_
  refine lv_iload_n hx hb dX6_fail_1 rfl (lv_at hl 1 rfl) ?_
  refine va_put (D := (dC, dI)) (ci := 11) (v := .int p0) (ty := .int) (C := RX6) (T := TX6) (N := 6) hx hb hts u_c_M_fail_X6 tyX6 tyX6_ok nmX6 hown hK hP hD hS 0 rfl rfl 0 (by decide) (hts (.fieldLink RX6 20 "HotelOfBellsModel" "thrown" "I") (List.mem_of_getElem? (i := 1) rfl)) (fun _ h9 => h9) rfl (by decide +kernel) rfl rfl (Nat.le_of_ble_eq_true rfl) dX6_fail_2 (fun H locs hP hD hS => ?_)
  have hP : va_P (dC, dI) vwCl [(h0, .inr (11, [.int p0, .int nf, .int nl, .int ng, .ref rq, .ref sbq]))] H := hP
  have hD : va_D A [(h0, .inr (11, [.int p0, .int nf, .int nl, .int ng, .ref rq, .ref sbq]))] := hD
  refine lv_iconst (v := 0) hx hb dX6_fail_5 (by decide) ?_
  have hP9 := hP.sub (ws' := [(h0, .inr (11, [.int p0, .int nf, .int nl, .int ng, .ref rq, .ref sbq]))]) [0] rfl
  have hD9 := hD.sub (ws' := [(h0, .inr (11, [.int p0, .int nf, .int nl, .int ng, .ref rq, .ref sbq]))]) [0] (by decide) rfl
  have hK9 := hK.sub (tys' := []) [] rfl
  exact W.iret (v := 0) hx hb hr (fun t ht hW => ⟨⟨0, (), rfl, rfl, by rw [ht]; exact hP9, va_K.moved hW.alike hK9, hD9⟩, hS.F ht⟩) hS.2.2 dX6_fail_6
def v_c_isIn_t : List Cond := .code yX6_isIn cX6_isIn 3 (some .boolean) :: ([] ++ [])
set_option maxHeartbeats 4000000 in
set_option maxRecDepth 100000 in
theorem c_isIn_t (l : Launch) (hl9 : l.stackTraces = false) (dC : Nat → ClassId) (dI : Nat → Nat → Nat) (tE : Nat) (p0 : Int32) (p1 : Int32) (p2 : Int32) (sz : Nat) (h1 : ¬ p0 < p1) (h2 : ¬ p2 < p0) : Met l yX6_isIn v_c_isIn_t ({ frames := 0, cells := 0, slots := 0, locals := 0 }) (va_Pc [.int p0, .int p1, .int p2] (Pre0 dC dI tE sz [] [])) (va_Qi (fun (r : Int32) (_ : Unit) => r = 1) (fun _ t => Pst dC dI [] (va_A [] sz) [] t) (va_A [] sz)) 0 0 (va_A [] sz) := by
  refine Met.ofW (cc := cX6_isIn) (maxL := 3) (ret := (some .boolean)) (by decide) rfl ?_
  intro p e s m args below meth c s₁ B hml hv
  obtain ⟨rfl, hsz, hP, hK, hD0, hT⟩ := hv
  have hx := B.exec
  have hb := B.bytes
  have hr := B.returns
  have hts := atoms_spec (ws := v_c_isIn_t) B.pre
  have hown : s.vm.findClass RX6 = some m.cls := findClass_of_methodNamed B.named
  have hlocks := B.notSynchronized
  subst hsz
  have hD := hD0.self (sz := s.heap.size)
  generalize hAe : va_A [] s.heap.size = A at hD hT ⊢
  have hA : ∀ q : Nat, s.heap.size ≤ q → A q := fun q h => by rw [← hAe]; exact Or.inr h
  have hS : va_S A s.heap s.heap [] := va_S.rf
  have hl := lv_entry ([.int p0, .int p1, .int p2]) (n := 3) (Nat.le_of_ble_eq_true rfl)
  rw [lg_entry_eq]
  generalize (lg_sl ([.int p0, .int p1, .int p2]) ++ List.replicate (3 - (lg_sl ([.int p0, .int p1, .int p2])).length) Slot.unset).toArray = ls at hl ⊢
  have hl : lv_has ls 3 [(0, .int p0), (1, .int p1), (2, .int p2)] := hl
  refine lv_iload_n hx hb dX6_isIn_0 rfl (lv_at hl 0 rfl) ?_
  refine lv_iload_n hx hb dX6_isIn_1 rfl (lv_at hl 1 rfl) ?_
  refine lv_icmp_lt (tgt := 14) hx hb dX6_isIn_2 (by decide) (fun c_1 => absurd c_1 h1) (fun _ => ?_)
  refine lv_iload_n hx hb dX6_isIn_5 rfl (lv_at hl 0 rfl) ?_
  refine lv_iload_n hx hb dX6_isIn_6 rfl (lv_at hl 2 rfl) ?_
  refine lv_icmp_gt (tgt := 14) hx hb dX6_isIn_7 (by decide) (fun c_2 => absurd c_2 h2) (fun _ => ?_)
  refine lv_iconst (v := 1) hx hb dX6_isIn_10 (by decide) ?_
  refine lv_goto (tgt := 15) hx hb dX6_isIn_11 (by decide) ?_
  have hP9 := hP.sub (ws' := []) [] rfl
  have hD9 := hD.sub (ws' := []) [] (by decide) rfl
  have hK9 := hK.sub (tys' := []) [] rfl
  exact W.zret (v := 1) hx hb hr (by decide) (fun t ht hW => ⟨⟨1, (), rfl, rfl, by rw [ht]; exact hP9, va_K.moved hW.alike hK9, hD9⟩, hS.F ht⟩) hS.2.2 dX6_isIn_15
def v_c_isIn_f : List Cond := .code yX6_isIn cX6_isIn 3 (some .boolean) :: ([] ++ [])
set_option maxHeartbeats 4000000 in
set_option maxRecDepth 100000 in
theorem c_isIn_f (l : Launch) (hl9 : l.stackTraces = false) (dC : Nat → ClassId) (dI : Nat → Nat → Nat) (tE : Nat) (p0 : Int32) (p1 : Int32) (p2 : Int32) (sz : Nat) (h : p0 < p1 ∨ p2 < p0) : Met l yX6_isIn v_c_isIn_f ({ frames := 0, cells := 0, slots := 0, locals := 0 }) (va_Pc [.int p0, .int p1, .int p2] (Pre0 dC dI tE sz [] [])) (va_Qi (fun (r : Int32) (_ : Unit) => r = 0) (fun _ t => Pst dC dI [] (va_A [] sz) [] t) (va_A [] sz)) 0 0 (va_A [] sz) := by
  refine Met.ofW (cc := cX6_isIn) (maxL := 3) (ret := (some .boolean)) (by decide) rfl ?_
  intro p e s m args below meth c s₁ B hml hv
  obtain ⟨rfl, hsz, hP, hK, hD0, hT⟩ := hv
  have hx := B.exec
  have hb := B.bytes
  have hr := B.returns
  have hts := atoms_spec (ws := v_c_isIn_f) B.pre
  have hown : s.vm.findClass RX6 = some m.cls := findClass_of_methodNamed B.named
  have hlocks := B.notSynchronized
  subst hsz
  have hD := hD0.self (sz := s.heap.size)
  generalize hAe : va_A [] s.heap.size = A at hD hT ⊢
  have hA : ∀ q : Nat, s.heap.size ≤ q → A q := fun q h => by rw [← hAe]; exact Or.inr h
  have hS : va_S A s.heap s.heap [] := va_S.rf
  have hl := lv_entry ([.int p0, .int p1, .int p2]) (n := 3) (Nat.le_of_ble_eq_true rfl)
  rw [lg_entry_eq]
  generalize (lg_sl ([.int p0, .int p1, .int p2]) ++ List.replicate (3 - (lg_sl ([.int p0, .int p1, .int p2])).length) Slot.unset).toArray = ls at hl ⊢
  have hl : lv_has ls 3 [(0, .int p0), (1, .int p1), (2, .int p2)] := hl
  refine lv_iload_n hx hb dX6_isIn_0 rfl (lv_at hl 0 rfl) ?_
  refine lv_iload_n hx hb dX6_isIn_1 rfl (lv_at hl 1 rfl) ?_
  refine lv_icmp_lt (tgt := 14) hx hb dX6_isIn_2 (by decide) (fun c_1 => ?_) (fun c_1 => ?_)
  · refine lv_iconst (v := 0) hx hb dX6_isIn_14 (by decide) ?_
    have hP9 := hP.sub (ws' := []) [] rfl
    have hD9 := hD.sub (ws' := []) [] (by decide) rfl
    have hK9 := hK.sub (tys' := []) [] rfl
    exact W.zret (v := 0) hx hb hr (by decide) (fun t ht hW => ⟨⟨0, (), rfl, rfl, by rw [ht]; exact hP9, va_K.moved hW.alike hK9, hD9⟩, hS.F ht⟩) hS.2.2 dX6_isIn_15
  · refine lv_iload_n hx hb dX6_isIn_5 rfl (lv_at hl 0 rfl) ?_
    refine lv_iload_n hx hb dX6_isIn_6 rfl (lv_at hl 2 rfl) ?_
    refine lv_icmp_gt (tgt := 14) hx hb dX6_isIn_7 (by decide) (fun _ => ?_) (fun c_2 => absurd (h.resolve_left (by assumption)) c_2)
    refine lv_iconst (v := 0) hx hb dX6_isIn_14 (by decide) ?_
    have hP9 := hP.sub (ws' := []) [] rfl
    have hD9 := hD.sub (ws' := []) [] (by decide) rfl
    have hK9 := hK.sub (tys' := []) [] rfl
    exact W.zret (v := 0) hx hb hr (by decide) (fun t ht hW => ⟨⟨0, (), rfl, rfl, by rw [ht]; exact hP9, va_K.moved hW.alike hK9, hD9⟩, hS.F ht⟩) hS.2.2 dX6_isIn_15
def v_c_setFl_0 : List Cond := .code yX6_setFl cX6_setFl 4 none :: ([Cond.fieldLink RX6 9 "HotelOfBellsModel" "row" "[I"] ++ (wsX60 ++ []))
theorem u_c_setFl_0_X6 : ∀ w ∈ wsX60, w ∈ v_c_setFl_0 := fun _ h => List.mem_cons_of_mem _ (List.mem_append_right _ (List.mem_append_left _ h))
set_option maxHeartbeats 4000000 in
set_option maxRecDepth 100000 in
theorem c_setFl_0 (l : Launch) (hl9 : l.stackTraces = false) (dC : Nat → ClassId) (dI : Nat → Nat → Nat) (tE : Nat) (h0 : Nat) (rq : Nat) (sbq : Nat) (th : Int32) (nf : Int32) (nl : Int32) (ng : Int32) (ci : ClassId) (fr : Nat → Int32) (p2 : Int32) (sz : Nat) : Met l yX6_setFl v_c_setFl_0 ({ frames := 0, cells := 0, slots := 0, locals := 0 }) (va_Pc [.ref h0, .int 0, .int 0, .int p2] (Pre0 dC dI tE sz [(ci, .int)] [(h0, .inr (11, [.int th, .int nf, .int nl, .int ng, .ref rq, .ref sbq])), (rq, .inl (ci, 119, .inl fr))])) (va_Qv (fun (_ : Unit) => True) (fun _ t => ∃ (fx0 : Nat → Int32), Pst dC dI [(ci, .int)] (va_A [(h0, .inr (11, [.int th, .int nf, .int nl, .int ng, .ref rq, .ref sbq])), (rq, .inl (ci, 119, .inl fr))] sz) [(h0, .inr (11, [.int th, .int nf, .int nl, .int ng, .ref rq, .ref sbq])), (rq, .inl (ci, 119, .inl fx0))] t) (va_A [(h0, .inr (11, [.int th, .int nf, .int nl, .int ng, .ref rq, .ref sbq])), (rq, .inl (ci, 119, .inl fr))] sz)) 0 0 (va_A [(h0, .inr (11, [.int th, .int nf, .int nl, .int ng, .ref rq, .ref sbq])), (rq, .inl (ci, 119, .inl fr))] sz) := by
  refine Met.ofW (cc := cX6_setFl) (maxL := 4) (ret := none) (by decide) rfl ?_
  intro p e s m args below meth c s₁ B hml hv
  obtain ⟨rfl, hsz, hP, hK, hD0, hT⟩ := hv
  have hx := B.exec
  have hb := B.bytes
  have hr := B.returns
  have hts := atoms_spec (ws := v_c_setFl_0) B.pre
  have hown : s.vm.findClass RX6 = some m.cls := findClass_of_methodNamed B.named
  have hlocks := B.notSynchronized
  subst hsz
  have hD := hD0.self (sz := s.heap.size)
  generalize hAe : va_A [(h0, .inr (11, [.int th, .int nf, .int nl, .int ng, .ref rq, .ref sbq])), (rq, .inl (ci, 119, .inl fr))] s.heap.size = A at hD hT ⊢
  have hA : ∀ q : Nat, s.heap.size ≤ q → A q := fun q h => by rw [← hAe]; exact Or.inr h
  have hS : va_S A s.heap s.heap [] := va_S.rf
  have hl := lv_entry ([.ref h0, .int 0, .int 0, .int p2]) (n := 4) (Nat.le_of_ble_eq_true rfl)
  rw [lg_entry_eq]
  generalize (lg_sl ([.ref h0, .int 0, .int 0, .int p2]) ++ List.replicate (4 - (lg_sl ([.ref h0, .int 0, .int 0, .int p2])).length) Slot.unset).toArray = ls at hl ⊢
  have hl : lv_has ls 4 [(0, .ref h0), (1, .int 0), (2, .int 0), (3, .int p2)] := hl
  refine lv_aload_n hx hb dX6_setFl_0 rfl (lv_at hl 0 rfl) ?_
  refine va_get (D := (dC, dI)) (ci := 11) (v := .ref rq) (C := RX6) (T := TX6) (N := 6) hx hb hts u_c_setFl_0_X6 hown hK hP 0 rfl rfl 4 (by decide) (hts (.fieldLink RX6 9 "HotelOfBellsModel" "row" "[I") (List.mem_of_getElem? (i := 1) rfl)) (fun _ h9 => h9) rfl dX6_setFl_1 ?_
  refine lv_iconst (v := 4) hx hb dX6_setFl_4 (by decide) ?_
  refine lv_iload_n hx hb dX6_setFl_5 rfl (lv_at hl 1 rfl) ?_
  refine lv_imul hx hb dX6_setFl_6 ?_
  refine lv_topi (fun x_1 e_2 => ?_)
  obtain rfl : x_1 = 0 := e_2.trans (by decide)
  refine lv_iload_n hx hb dX6_setFl_7 rfl (lv_at hl 2 rfl) ?_
  refine lv_iadd hx hb dX6_setFl_8 ?_
  refine lv_topi (fun x_3 e_4 => ?_)
  obtain rfl : x_3 = 0 := e_4.trans (by decide)
  refine lv_iload_n hx hb dX6_setFl_9 rfl (lv_at hl 3 rfl) ?_
  refine va_iast hx hb hK hP hD hS 1 0 rfl rfl (by unfold vp_in; decide) dX6_setFl_10 (fun H locs hP hD hS => ?_)
  obtain ⟨f_5, ef_5⟩ : ∃ z, z = upd fr (0 : Int32).toNatClampNeg p2 := ⟨_, rfl⟩
  rw [← ef_5] at hP hD
  have hP : va_P (dC, dI) vwCl [(h0, .inr (11, [.int th, .int nf, .int nl, .int ng, .ref rq, .ref sbq])), (rq, .inl (ci, 119, .inl f_5))] H := hP
  have hD : va_D A [(h0, .inr (11, [.int th, .int nf, .int nl, .int ng, .ref rq, .ref sbq])), (rq, .inl (ci, 119, .inl f_5))] := hD
  have hP9 := hP.sub (ws' := [(h0, .inr (11, [.int th, .int nf, .int nl, .int ng, .ref rq, .ref sbq])), (rq, .inl (ci, 119, .inl f_5))]) [0, 1] rfl
  have hD9 := hD.sub (ws' := [(h0, .inr (11, [.int th, .int nf, .int nl, .int ng, .ref rq, .ref sbq])), (rq, .inl (ci, 119, .inl f_5))]) [0, 1] (by decide) rfl
  have hK9 := hK.sub (tys' := [(ci, .int)]) [0] rfl
  exact W.vret hx hb hr (fun t ht hW => ⟨⟨(), rfl, trivial, f_5, by rw [ht]; exact hP9, va_K.moved hW.alike hK9, hD9⟩, hS.F ht⟩) hS.2.2 dX6_setFl_11
def v_c_setFl_2 : List Cond := .code yX6_setFl cX6_setFl 4 none :: ([Cond.fieldLink RX6 9 "HotelOfBellsModel" "row" "[I"] ++ (wsX60 ++ []))
theorem u_c_setFl_2_X6 : ∀ w ∈ wsX60, w ∈ v_c_setFl_2 := fun _ h => List.mem_cons_of_mem _ (List.mem_append_right _ (List.mem_append_left _ h))
set_option maxHeartbeats 4000000 in
set_option maxRecDepth 100000 in
theorem c_setFl_2 (l : Launch) (hl9 : l.stackTraces = false) (dC : Nat → ClassId) (dI : Nat → Nat → Nat) (tE : Nat) (h0 : Nat) (rq : Nat) (sbq : Nat) (th : Int32) (nf : Int32) (nl : Int32) (ng : Int32) (ci : ClassId) (fr : Nat → Int32) (p2 : Int32) (sz : Nat) : Met l yX6_setFl v_c_setFl_2 ({ frames := 0, cells := 0, slots := 0, locals := 0 }) (va_Pc [.ref h0, .int 0, .int 2, .int p2] (Pre0 dC dI tE sz [(ci, .int)] [(h0, .inr (11, [.int th, .int nf, .int nl, .int ng, .ref rq, .ref sbq])), (rq, .inl (ci, 119, .inl fr))])) (va_Qv (fun (_ : Unit) => True) (fun _ t => ∃ (fx0 : Nat → Int32), Pst dC dI [(ci, .int)] (va_A [(h0, .inr (11, [.int th, .int nf, .int nl, .int ng, .ref rq, .ref sbq])), (rq, .inl (ci, 119, .inl fr))] sz) [(h0, .inr (11, [.int th, .int nf, .int nl, .int ng, .ref rq, .ref sbq])), (rq, .inl (ci, 119, .inl fx0))] t) (va_A [(h0, .inr (11, [.int th, .int nf, .int nl, .int ng, .ref rq, .ref sbq])), (rq, .inl (ci, 119, .inl fr))] sz)) 0 0 (va_A [(h0, .inr (11, [.int th, .int nf, .int nl, .int ng, .ref rq, .ref sbq])), (rq, .inl (ci, 119, .inl fr))] sz) := by
  refine Met.ofW (cc := cX6_setFl) (maxL := 4) (ret := none) (by decide) rfl ?_
  intro p e s m args below meth c s₁ B hml hv
  obtain ⟨rfl, hsz, hP, hK, hD0, hT⟩ := hv
  have hx := B.exec
  have hb := B.bytes
  have hr := B.returns
  have hts := atoms_spec (ws := v_c_setFl_2) B.pre
  have hown : s.vm.findClass RX6 = some m.cls := findClass_of_methodNamed B.named
  have hlocks := B.notSynchronized
  subst hsz
  have hD := hD0.self (sz := s.heap.size)
  generalize hAe : va_A [(h0, .inr (11, [.int th, .int nf, .int nl, .int ng, .ref rq, .ref sbq])), (rq, .inl (ci, 119, .inl fr))] s.heap.size = A at hD hT ⊢
  have hA : ∀ q : Nat, s.heap.size ≤ q → A q := fun q h => by rw [← hAe]; exact Or.inr h
  have hS : va_S A s.heap s.heap [] := va_S.rf
  have hl := lv_entry ([.ref h0, .int 0, .int 2, .int p2]) (n := 4) (Nat.le_of_ble_eq_true rfl)
  rw [lg_entry_eq]
  generalize (lg_sl ([.ref h0, .int 0, .int 2, .int p2]) ++ List.replicate (4 - (lg_sl ([.ref h0, .int 0, .int 2, .int p2])).length) Slot.unset).toArray = ls at hl ⊢
  have hl : lv_has ls 4 [(0, .ref h0), (1, .int 0), (2, .int 2), (3, .int p2)] := hl
  refine lv_aload_n hx hb dX6_setFl_0 rfl (lv_at hl 0 rfl) ?_
  refine va_get (D := (dC, dI)) (ci := 11) (v := .ref rq) (C := RX6) (T := TX6) (N := 6) hx hb hts u_c_setFl_2_X6 hown hK hP 0 rfl rfl 4 (by decide) (hts (.fieldLink RX6 9 "HotelOfBellsModel" "row" "[I") (List.mem_of_getElem? (i := 1) rfl)) (fun _ h9 => h9) rfl dX6_setFl_1 ?_
  refine lv_iconst (v := 4) hx hb dX6_setFl_4 (by decide) ?_
  refine lv_iload_n hx hb dX6_setFl_5 rfl (lv_at hl 1 rfl) ?_
  refine lv_imul hx hb dX6_setFl_6 ?_
  refine lv_topi (fun x_1 e_2 => ?_)
  obtain rfl : x_1 = 0 := e_2.trans (by decide)
  refine lv_iload_n hx hb dX6_setFl_7 rfl (lv_at hl 2 rfl) ?_
  refine lv_iadd hx hb dX6_setFl_8 ?_
  refine lv_topi (fun x_3 e_4 => ?_)
  obtain rfl : x_3 = 2 := e_4.trans (by decide)
  refine lv_iload_n hx hb dX6_setFl_9 rfl (lv_at hl 3 rfl) ?_
  refine va_iast hx hb hK hP hD hS 1 0 rfl rfl (by unfold vp_in; decide) dX6_setFl_10 (fun H locs hP hD hS => ?_)
  obtain ⟨f_5, ef_5⟩ : ∃ z, z = upd fr (2 : Int32).toNatClampNeg p2 := ⟨_, rfl⟩
  rw [← ef_5] at hP hD
  have hP : va_P (dC, dI) vwCl [(h0, .inr (11, [.int th, .int nf, .int nl, .int ng, .ref rq, .ref sbq])), (rq, .inl (ci, 119, .inl f_5))] H := hP
  have hD : va_D A [(h0, .inr (11, [.int th, .int nf, .int nl, .int ng, .ref rq, .ref sbq])), (rq, .inl (ci, 119, .inl f_5))] := hD
  have hP9 := hP.sub (ws' := [(h0, .inr (11, [.int th, .int nf, .int nl, .int ng, .ref rq, .ref sbq])), (rq, .inl (ci, 119, .inl f_5))]) [0, 1] rfl
  have hD9 := hD.sub (ws' := [(h0, .inr (11, [.int th, .int nf, .int nl, .int ng, .ref rq, .ref sbq])), (rq, .inl (ci, 119, .inl f_5))]) [0, 1] (by decide) rfl
  have hK9 := hK.sub (tys' := [(ci, .int)]) [0] rfl
  exact W.vret hx hb hr (fun t ht hW => ⟨⟨(), rfl, trivial, f_5, by rw [ht]; exact hP9, va_K.moved hW.alike hK9, hD9⟩, hS.F ht⟩) hS.2.2 dX6_setFl_11
def v_c_setLi_1 : List Cond := .code yX6_setLi cX6_setLi 4 none :: ([Cond.fieldLink RX6 9 "HotelOfBellsModel" "row" "[I"] ++ (wsX60 ++ []))
theorem u_c_setLi_1_X6 : ∀ w ∈ wsX60, w ∈ v_c_setLi_1 := fun _ h => List.mem_cons_of_mem _ (List.mem_append_right _ (List.mem_append_left _ h))
set_option maxHeartbeats 4000000 in
set_option maxRecDepth 100000 in
theorem c_setLi_1 (l : Launch) (hl9 : l.stackTraces = false) (dC : Nat → ClassId) (dI : Nat → Nat → Nat) (tE : Nat) (h0 : Nat) (rq : Nat) (sbq : Nat) (th : Int32) (nf : Int32) (nl : Int32) (ng : Int32) (ci : ClassId) (fr : Nat → Int32) (p2 : Int32) (sz : Nat) : Met l yX6_setLi v_c_setLi_1 ({ frames := 0, cells := 0, slots := 0, locals := 0 }) (va_Pc [.ref h0, .int 0, .int 1, .int p2] (Pre0 dC dI tE sz [(ci, .int)] [(h0, .inr (11, [.int th, .int nf, .int nl, .int ng, .ref rq, .ref sbq])), (rq, .inl (ci, 119, .inl fr))])) (va_Qv (fun (_ : Unit) => True) (fun _ t => ∃ (fx0 : Nat → Int32), Pst dC dI [(ci, .int)] (va_A [(h0, .inr (11, [.int th, .int nf, .int nl, .int ng, .ref rq, .ref sbq])), (rq, .inl (ci, 119, .inl fr))] sz) [(h0, .inr (11, [.int th, .int nf, .int nl, .int ng, .ref rq, .ref sbq])), (rq, .inl (ci, 119, .inl fx0))] t) (va_A [(h0, .inr (11, [.int th, .int nf, .int nl, .int ng, .ref rq, .ref sbq])), (rq, .inl (ci, 119, .inl fr))] sz)) 0 0 (va_A [(h0, .inr (11, [.int th, .int nf, .int nl, .int ng, .ref rq, .ref sbq])), (rq, .inl (ci, 119, .inl fr))] sz) := by
  refine Met.ofW (cc := cX6_setLi) (maxL := 4) (ret := none) (by decide) rfl ?_
  intro p e s m args below meth c s₁ B hml hv
  obtain ⟨rfl, hsz, hP, hK, hD0, hT⟩ := hv
  have hx := B.exec
  have hb := B.bytes
  have hr := B.returns
  have hts := atoms_spec (ws := v_c_setLi_1) B.pre
  have hown : s.vm.findClass RX6 = some m.cls := findClass_of_methodNamed B.named
  have hlocks := B.notSynchronized
  subst hsz
  have hD := hD0.self (sz := s.heap.size)
  generalize hAe : va_A [(h0, .inr (11, [.int th, .int nf, .int nl, .int ng, .ref rq, .ref sbq])), (rq, .inl (ci, 119, .inl fr))] s.heap.size = A at hD hT ⊢
  have hA : ∀ q : Nat, s.heap.size ≤ q → A q := fun q h => by rw [← hAe]; exact Or.inr h
  have hS : va_S A s.heap s.heap [] := va_S.rf
  have hl := lv_entry ([.ref h0, .int 0, .int 1, .int p2]) (n := 4) (Nat.le_of_ble_eq_true rfl)
  rw [lg_entry_eq]
  generalize (lg_sl ([.ref h0, .int 0, .int 1, .int p2]) ++ List.replicate (4 - (lg_sl ([.ref h0, .int 0, .int 1, .int p2])).length) Slot.unset).toArray = ls at hl ⊢
  have hl : lv_has ls 4 [(0, .ref h0), (1, .int 0), (2, .int 1), (3, .int p2)] := hl
  refine lv_aload_n hx hb dX6_setLi_0 rfl (lv_at hl 0 rfl) ?_
  refine va_get (D := (dC, dI)) (ci := 11) (v := .ref rq) (C := RX6) (T := TX6) (N := 6) hx hb hts u_c_setLi_1_X6 hown hK hP 0 rfl rfl 4 (by decide) (hts (.fieldLink RX6 9 "HotelOfBellsModel" "row" "[I") (List.mem_of_getElem? (i := 1) rfl)) (fun _ h9 => h9) rfl dX6_setLi_1 ?_
  refine lv_bipush (v := 24) hx hb dX6_setLi_4 (by decide) ?_
  refine lv_bipush (v := 8) hx hb dX6_setLi_6 (by decide) ?_
  refine lv_iload_n hx hb dX6_setLi_8 rfl (lv_at hl 1 rfl) ?_
  refine lv_imul hx hb dX6_setLi_9 ?_
  refine lv_topi (fun x_1 e_2 => ?_)
  obtain rfl : x_1 = 0 := e_2.trans (by decide)
  refine lv_iadd hx hb dX6_setLi_10 ?_
  refine lv_topi (fun x_3 e_4 => ?_)
  obtain rfl : x_3 = 24 := e_4.trans (by decide)
  refine lv_iload_n hx hb dX6_setLi_11 rfl (lv_at hl 2 rfl) ?_
  refine lv_iadd hx hb dX6_setLi_12 ?_
  refine lv_topi (fun x_5 e_6 => ?_)
  obtain rfl : x_5 = 25 := e_6.trans (by decide)
  refine lv_iload_n hx hb dX6_setLi_13 rfl (lv_at hl 3 rfl) ?_
  refine va_iast hx hb hK hP hD hS 1 0 rfl rfl (by unfold vp_in; decide) dX6_setLi_14 (fun H locs hP hD hS => ?_)
  obtain ⟨f_7, ef_7⟩ : ∃ z, z = upd fr (25 : Int32).toNatClampNeg p2 := ⟨_, rfl⟩
  rw [← ef_7] at hP hD
  have hP : va_P (dC, dI) vwCl [(h0, .inr (11, [.int th, .int nf, .int nl, .int ng, .ref rq, .ref sbq])), (rq, .inl (ci, 119, .inl f_7))] H := hP
  have hD : va_D A [(h0, .inr (11, [.int th, .int nf, .int nl, .int ng, .ref rq, .ref sbq])), (rq, .inl (ci, 119, .inl f_7))] := hD
  have hP9 := hP.sub (ws' := [(h0, .inr (11, [.int th, .int nf, .int nl, .int ng, .ref rq, .ref sbq])), (rq, .inl (ci, 119, .inl f_7))]) [0, 1] rfl
  have hD9 := hD.sub (ws' := [(h0, .inr (11, [.int th, .int nf, .int nl, .int ng, .ref rq, .ref sbq])), (rq, .inl (ci, 119, .inl f_7))]) [0, 1] (by decide) rfl
  have hK9 := hK.sub (tys' := [(ci, .int)]) [0] rfl
  exact W.vret hx hb hr (fun t ht hW => ⟨⟨(), rfl, trivial, f_7, by rw [ht]; exact hP9, va_K.moved hW.alike hK9, hD9⟩, hS.F ht⟩) hS.2.2 dX6_setLi_15
def v_c_M_isFloor : List Cond := .code yX6_isFloor cX6_isFloor 2 (some .boolean) :: ([Cond.fieldLink RX6 24 "HotelOfBellsModel" "floors" "I", Cond.code yX6_isIn cX6_isIn 3 (some .boolean), Cond.methodLink RX6 27 yX6_isIn, Cond.static yX6_isIn, Cond.initialized RX6] ++ (wsX60 ++ []))
theorem u_c_M_isFloor_X6 : ∀ w ∈ wsX60, w ∈ v_c_M_isFloor := fun _ h => List.mem_cons_of_mem _ (List.mem_append_right _ (List.mem_append_left _ h))
theorem gg_c_M_isFloor_c_isIn_f : GoodIn v_c_M_isFloor v_c_isIn_f := goodIn_r _ [2] (by rfl) (by decide +kernel)
set_option maxHeartbeats 4000000 in
set_option maxRecDepth 100000 in
theorem c_M_isFloor (l : Launch) (hl9 : l.stackTraces = false) (dC : Nat → ClassId) (dI : Nat → Nat → Nat) (tE : Nat) (h0 : Nat) (rq : Nat) (sbq : Nat) (th : Int32) (p0 : Int32) (sz : Nat) : Met l yX6_isFloor v_c_M_isFloor ({ frames := 1, cells := 0, slots := 0, locals := 22 }) (va_Pc [.ref h0, .int p0] (Pre0 dC dI tE sz [] [(h0, .inr (11, [.int th, .int 0, .int 0, .int 0, .ref rq, .ref sbq]))])) (va_Qi (fun (r : Int32) (_ : Unit) => r = 0) (fun _ t => Pst dC dI [] (va_A [(h0, .inr (11, [.int th, .int 0, .int 0, .int 0, .ref rq, .ref sbq]))] sz) [(h0, .inr (11, [.int th, .int 0, .int 0, .int 0, .ref rq, .ref sbq]))] t) (va_A [(h0, .inr (11, [.int th, .int 0, .int 0, .int 0, .ref rq, .ref sbq]))] sz)) 0 0 (va_A [(h0, .inr (11, [.int th, .int 0, .int 0, .int 0, .ref rq, .ref sbq]))] sz) := by
  refine Met.ofW (cc := cX6_isFloor) (maxL := 2) (ret := (some .boolean)) (by decide) rfl ?_
  intro p e s m args below meth c s₁ B hml hv
  obtain ⟨rfl, hsz, hP, hK, hD0, hT⟩ := hv
  have hx := B.exec
  have hb := B.bytes
  have hr := B.returns
  have hts := atoms_spec (ws := v_c_M_isFloor) B.pre
  have hown : s.vm.findClass RX6 = some m.cls := findClass_of_methodNamed B.named
  have hlocks := B.notSynchronized
  subst hsz
  have hD := hD0.self (sz := s.heap.size)
  generalize hAe : va_A [(h0, .inr (11, [.int th, .int 0, .int 0, .int 0, .ref rq, .ref sbq]))] s.heap.size = A at hD hT ⊢
  have hA : ∀ q : Nat, s.heap.size ≤ q → A q := fun q h => by rw [← hAe]; exact Or.inr h
  have hS : va_S A s.heap s.heap [] := va_S.rf
  have hl := lv_entry ([.ref h0, .int p0]) (n := 2) (Nat.le_of_ble_eq_true rfl)
  rw [lg_entry_eq]
  generalize (lg_sl ([.ref h0, .int p0]) ++ List.replicate (2 - (lg_sl ([.ref h0, .int p0])).length) Slot.unset).toArray = ls at hl ⊢
  have hl : lv_has ls 2 [(0, .ref h0), (1, .int p0)] := hl
  refine lv_iload_n hx hb dX6_isFloor_0 rfl (lv_at hl 1 rfl) ?_
  refine lv_iconst (v := 0) hx hb dX6_isFloor_1 (by decide) ?_
  refine lv_aload_n hx hb dX6_isFloor_2 rfl (lv_at hl 0 rfl) ?_
  refine va_get (D := (dC, dI)) (ci := 11) (v := .int 0) (C := RX6) (T := TX6) (N := 6) hx hb hts u_c_M_isFloor_X6 hown hK hP 0 rfl rfl 1 (by decide) (hts (.fieldLink RX6 24 "HotelOfBellsModel" "floors" "I") (List.mem_of_getElem? (i := 1) rfl)) (fun _ h9 => h9) rfl dX6_isFloor_3 ?_
  refine lv_iconst (v := 1) hx hb dX6_isFloor_6 (by decide) ?_
  refine lv_isub hx hb dX6_isFloor_7 ?_
  refine lv_topi (fun x_1 e_2 => ?_)
  obtain rfl : x_1 = (-1) := e_2.trans (by decide)
  have hPc := hP.sub (ws' := []) [] rfl
  have hDc := hD.sub (ws' := []) [] (by decide) rfl
  have hKc := hK.sub (tys' := []) [] rfl
  have hFc := va_free (wc := []) hD hS hA [] rfl
  refine va_calli (va_runS (As := [.int p0, .int 0, .int (-1)]) (rest := []) ⟨hx, hb, hml, hown, hts⟩ (c_isIn_f l hl9 dC dI tE p0 0 (-1) _ (none_in p0)) (va_cwS 3 hts (goodIn_app (goodIn_r _ [3, 4, 5] (by rfl) (by decide +kernel)) gg_c_M_isFloor_c_isIn_f) rfl rfl rfl (by decide +kernel) ⟨Nat.le_of_ble_eq_true rfl, Nat.le_of_ble_eq_true rfl⟩) ⟨Pre0.blind, Pre0.give hPc hKc hDc hT hS hFc⟩ rfl rfl hl.1 rfl (lv_room (Nat.le_of_ble_eq_true rfl)) dX6_isFloor_8 ⟨Nat.le_of_ble_eq_true rfl, Nat.le_of_ble_eq_true rfl⟩) hS (fun q _ h => hFc q h) hFc (fun r_3 u t H1 locs ht hvm hw hB hz1 hk1 hS => ?_)
  obtain ⟨hP1, hK1, hD1⟩ := hB
  rw [ht] at hP1
  have hK1 := va_K.moved hvm.symm hK1
  obtain ⟨hP, hD⟩ := va_join (wr := [(h0, .inr (11, [.int th, .int 0, .int 0, .int 0, .ref rq, .ref sbq]))]) (w1 := []) hP hD [] [0] rfl rfl (by decide) (by decide) hk1 hFc hP1 hD1
  generalize H1 = H at hP hS ⊢
  have hP : va_P (dC, dI) vwCl [(h0, .inr (11, [.int th, .int 0, .int 0, .int 0, .ref rq, .ref sbq]))] H := hP
  have hD : va_D A [(h0, .inr (11, [.int th, .int 0, .int 0, .int 0, .ref rq, .ref sbq]))] := hD
  refine W.widen (k := 0) (n := 0) (by omega) (by omega) ?_
  obtain rfl : r_3 = 0 := hw
  have hP9 := hP.sub (ws' := [(h0, .inr (11, [.int th, .int 0, .int 0, .int 0, .ref rq, .ref sbq]))]) [0] rfl
  have hD9 := hD.sub (ws' := [(h0, .inr (11, [.int th, .int 0, .int 0, .int 0, .ref rq, .ref sbq]))]) [0] (by decide) rfl
  have hK9 := hK.sub (tys' := []) [] rfl
  exact W.zret (v := 0) hx hb hr (by decide) (fun t ht hW => ⟨⟨0, (), rfl, rfl, by rw [ht]; exact hP9, va_K.moved hW.alike hK9, hD9⟩, hS.F ht⟩) hS.2.2 dX6_isFloor_11
def v_c_M_isLift : List Cond := .code yX6_isLift cX6_isLift 2 (some .boolean) :: ([Cond.fieldLink RX6 31 "HotelOfBellsModel" "lifts" "I", Cond.code yX6_isIn cX6_isIn 3 (some .boolean), Cond.methodLink RX6 27 yX6_isIn, Cond.static yX6_isIn, Cond.initialized RX6] ++ (wsX60 ++ []))
theorem u_c_M_isLift_X6 : ∀ w ∈ wsX60, w ∈ v_c_M_isLift := fun _ h => List.mem_cons_of_mem _ (List.mem_append_right _ (List.mem_append_left _ h))
theorem gg_c_M_isLift_c_isIn_f : GoodIn v_c_M_isLift v_c_isIn_f := goodIn_r _ [2] (by rfl) (by decide +kernel)
set_option maxHeartbeats 4000000 in
set_option maxRecDepth 100000 in
theorem c_M_isLift (l : Launch) (hl9 : l.stackTraces = false) (dC : Nat → ClassId) (dI : Nat → Nat → Nat) (tE : Nat) (h0 : Nat) (rq : Nat) (sbq : Nat) (th : Int32) (p0 : Int32) (sz : Nat) : Met l yX6_isLift v_c_M_isLift ({ frames := 1, cells := 0, slots := 0, locals := 22 }) (va_Pc [.ref h0, .int p0] (Pre0 dC dI tE sz [] [(h0, .inr (11, [.int th, .int 0, .int 0, .int 0, .ref rq, .ref sbq]))])) (va_Qi (fun (r : Int32) (_ : Unit) => r = 0) (fun _ t => Pst dC dI [] (va_A [(h0, .inr (11, [.int th, .int 0, .int 0, .int 0, .ref rq, .ref sbq]))] sz) [(h0, .inr (11, [.int th, .int 0, .int 0, .int 0, .ref rq, .ref sbq]))] t) (va_A [(h0, .inr (11, [.int th, .int 0, .int 0, .int 0, .ref rq, .ref sbq]))] sz)) 0 0 (va_A [(h0, .inr (11, [.int th, .int 0, .int 0, .int 0, .ref rq, .ref sbq]))] sz) := by
  refine Met.ofW (cc := cX6_isLift) (maxL := 2) (ret := (some .boolean)) (by decide) rfl ?_
  intro p e s m args below meth c s₁ B hml hv
  obtain ⟨rfl, hsz, hP, hK, hD0, hT⟩ := hv
  have hx := B.exec
  have hb := B.bytes
  have hr := B.returns
  have hts := atoms_spec (ws := v_c_M_isLift) B.pre
  have hown : s.vm.findClass RX6 = some m.cls := findClass_of_methodNamed B.named
  have hlocks := B.notSynchronized
  subst hsz
  have hD := hD0.self (sz := s.heap.size)
  generalize hAe : va_A [(h0, .inr (11, [.int th, .int 0, .int 0, .int 0, .ref rq, .ref sbq]))] s.heap.size = A at hD hT ⊢
  have hA : ∀ q : Nat, s.heap.size ≤ q → A q := fun q h => by rw [← hAe]; exact Or.inr h
  have hS : va_S A s.heap s.heap [] := va_S.rf
  have hl := lv_entry ([.ref h0, .int p0]) (n := 2) (Nat.le_of_ble_eq_true rfl)
  rw [lg_entry_eq]
  generalize (lg_sl ([.ref h0, .int p0]) ++ List.replicate (2 - (lg_sl ([.ref h0, .int p0])).length) Slot.unset).toArray = ls at hl ⊢
  have hl : lv_has ls 2 [(0, .ref h0), (1, .int p0)] := hl
  refine lv_iload_n hx hb dX6_isLift_0 rfl (lv_at hl 1 rfl) ?_
  refine lv_iconst (v := 0) hx hb dX6_isLift_1 (by decide) ?_
  refine lv_aload_n hx hb dX6_isLift_2 rfl (lv_at hl 0 rfl) ?_
  refine va_get (D := (dC, dI)) (ci := 11) (v := .int 0) (C := RX6) (T := TX6) (N := 6) hx hb hts u_c_M_isLift_X6 hown hK hP 0 rfl rfl 2 (by decide) (hts (.fieldLink RX6 31 "HotelOfBellsModel" "lifts" "I") (List.mem_of_getElem? (i := 1) rfl)) (fun _ h9 => h9) rfl dX6_isLift_3 ?_
  refine lv_iconst (v := 1) hx hb dX6_isLift_6 (by decide) ?_
  refine lv_isub hx hb dX6_isLift_7 ?_
  refine lv_topi (fun x_1 e_2 => ?_)
  obtain rfl : x_1 = (-1) := e_2.trans (by decide)
  have hPc := hP.sub (ws' := []) [] rfl
  have hDc := hD.sub (ws' := []) [] (by decide) rfl
  have hKc := hK.sub (tys' := []) [] rfl
  have hFc := va_free (wc := []) hD hS hA [] rfl
  refine va_calli (va_runS (As := [.int p0, .int 0, .int (-1)]) (rest := []) ⟨hx, hb, hml, hown, hts⟩ (c_isIn_f l hl9 dC dI tE p0 0 (-1) _ (none_in p0)) (va_cwS 3 hts (goodIn_app (goodIn_r _ [3, 4, 5] (by rfl) (by decide +kernel)) gg_c_M_isLift_c_isIn_f) rfl rfl rfl (by decide +kernel) ⟨Nat.le_of_ble_eq_true rfl, Nat.le_of_ble_eq_true rfl⟩) ⟨Pre0.blind, Pre0.give hPc hKc hDc hT hS hFc⟩ rfl rfl hl.1 rfl (lv_room (Nat.le_of_ble_eq_true rfl)) dX6_isLift_8 ⟨Nat.le_of_ble_eq_true rfl, Nat.le_of_ble_eq_true rfl⟩) hS (fun q _ h => hFc q h) hFc (fun r_3 u t H1 locs ht hvm hw hB hz1 hk1 hS => ?_)
  obtain ⟨hP1, hK1, hD1⟩ := hB
  rw [ht] at hP1
  have hK1 := va_K.moved hvm.symm hK1
  obtain ⟨hP, hD⟩ := va_join (wr := [(h0, .inr (11, [.int th, .int 0, .int 0, .int 0, .ref rq, .ref sbq]))]) (w1 := []) hP hD [] [0] rfl rfl (by decide) (by decide) hk1 hFc hP1 hD1
  generalize H1 = H at hP hS ⊢
  have hP : va_P (dC, dI) vwCl [(h0, .inr (11, [.int th, .int 0, .int 0, .int 0, .ref rq, .ref sbq]))] H := hP
  have hD : va_D A [(h0, .inr (11, [.int th, .int 0, .int 0, .int 0, .ref rq, .ref sbq]))] := hD
  refine W.widen (k := 0) (n := 0) (by omega) (by omega) ?_
  obtain rfl : r_3 = 0 := hw
  have hP9 := hP.sub (ws' := [(h0, .inr (11, [.int th, .int 0, .int 0, .int 0, .ref rq, .ref sbq]))]) [0] rfl
  have hD9 := hD.sub (ws' := [(h0, .inr (11, [.int th, .int 0, .int 0, .int 0, .ref rq, .ref sbq]))]) [0] (by decide) rfl
  have hK9 := hK.sub (tys' := []) [] rfl
  exact W.zret (v := 0) hx hb hr (by decide) (fun t ht hW => ⟨⟨0, (), rfl, rfl, by rw [ht]; exact hP9, va_K.moved hW.alike hK9, hD9⟩, hS.F ht⟩) hS.2.2 dX6_isLift_11
def v_c_M_isGuest : List Cond := .code yX6_isGuest cX6_isGuest 2 (some .boolean) :: ([Cond.fieldLink RX6 34 "HotelOfBellsModel" "guests" "I", Cond.code yX6_isIn cX6_isIn 3 (some .boolean), Cond.methodLink RX6 27 yX6_isIn, Cond.static yX6_isIn, Cond.initialized RX6] ++ (wsX60 ++ []))
theorem u_c_M_isGuest_X6 : ∀ w ∈ wsX60, w ∈ v_c_M_isGuest := fun _ h => List.mem_cons_of_mem _ (List.mem_append_right _ (List.mem_append_left _ h))
theorem gg_c_M_isGuest_c_isIn_f : GoodIn v_c_M_isGuest v_c_isIn_f := goodIn_r _ [2] (by rfl) (by decide +kernel)
set_option maxHeartbeats 4000000 in
set_option maxRecDepth 100000 in
theorem c_M_isGuest (l : Launch) (hl9 : l.stackTraces = false) (dC : Nat → ClassId) (dI : Nat → Nat → Nat) (tE : Nat) (h0 : Nat) (rq : Nat) (sbq : Nat) (th : Int32) (p0 : Int32) (sz : Nat) : Met l yX6_isGuest v_c_M_isGuest ({ frames := 1, cells := 0, slots := 0, locals := 22 }) (va_Pc [.ref h0, .int p0] (Pre0 dC dI tE sz [] [(h0, .inr (11, [.int th, .int 0, .int 0, .int 0, .ref rq, .ref sbq]))])) (va_Qi (fun (r : Int32) (_ : Unit) => r = 0) (fun _ t => Pst dC dI [] (va_A [(h0, .inr (11, [.int th, .int 0, .int 0, .int 0, .ref rq, .ref sbq]))] sz) [(h0, .inr (11, [.int th, .int 0, .int 0, .int 0, .ref rq, .ref sbq]))] t) (va_A [(h0, .inr (11, [.int th, .int 0, .int 0, .int 0, .ref rq, .ref sbq]))] sz)) 0 0 (va_A [(h0, .inr (11, [.int th, .int 0, .int 0, .int 0, .ref rq, .ref sbq]))] sz) := by
  refine Met.ofW (cc := cX6_isGuest) (maxL := 2) (ret := (some .boolean)) (by decide) rfl ?_
  intro p e s m args below meth c s₁ B hml hv
  obtain ⟨rfl, hsz, hP, hK, hD0, hT⟩ := hv
  have hx := B.exec
  have hb := B.bytes
  have hr := B.returns
  have hts := atoms_spec (ws := v_c_M_isGuest) B.pre
  have hown : s.vm.findClass RX6 = some m.cls := findClass_of_methodNamed B.named
  have hlocks := B.notSynchronized
  subst hsz
  have hD := hD0.self (sz := s.heap.size)
  generalize hAe : va_A [(h0, .inr (11, [.int th, .int 0, .int 0, .int 0, .ref rq, .ref sbq]))] s.heap.size = A at hD hT ⊢
  have hA : ∀ q : Nat, s.heap.size ≤ q → A q := fun q h => by rw [← hAe]; exact Or.inr h
  have hS : va_S A s.heap s.heap [] := va_S.rf
  have hl := lv_entry ([.ref h0, .int p0]) (n := 2) (Nat.le_of_ble_eq_true rfl)
  rw [lg_entry_eq]
  generalize (lg_sl ([.ref h0, .int p0]) ++ List.replicate (2 - (lg_sl ([.ref h0, .int p0])).length) Slot.unset).toArray = ls at hl ⊢
  have hl : lv_has ls 2 [(0, .ref h0), (1, .int p0)] := hl
  refine lv_iload_n hx hb dX6_isGuest_0 rfl (lv_at hl 1 rfl) ?_
  refine lv_iconst (v := 0) hx hb dX6_isGuest_1 (by decide) ?_
  refine lv_aload_n hx hb dX6_isGuest_2 rfl (lv_at hl 0 rfl) ?_
  refine va_get (D := (dC, dI)) (ci := 11) (v := .int 0) (C := RX6) (T := TX6) (N := 6) hx hb hts u_c_M_isGuest_X6 hown hK hP 0 rfl rfl 3 (by decide) (hts (.fieldLink RX6 34 "HotelOfBellsModel" "guests" "I") (List.mem_of_getElem? (i := 1) rfl)) (fun _ h9 => h9) rfl dX6_isGuest_3 ?_
  refine lv_iconst (v := 1) hx hb dX6_isGuest_6 (by decide) ?_
  refine lv_isub hx hb dX6_isGuest_7 ?_
  refine lv_topi (fun x_1 e_2 => ?_)
  obtain rfl : x_1 = (-1) := e_2.trans (by decide)
  have hPc := hP.sub (ws' := []) [] rfl
  have hDc := hD.sub (ws' := []) [] (by decide) rfl
  have hKc := hK.sub (tys' := []) [] rfl
  have hFc := va_free (wc := []) hD hS hA [] rfl
  refine va_calli (va_runS (As := [.int p0, .int 0, .int (-1)]) (rest := []) ⟨hx, hb, hml, hown, hts⟩ (c_isIn_f l hl9 dC dI tE p0 0 (-1) _ (none_in p0)) (va_cwS 3 hts (goodIn_app (goodIn_r _ [3, 4, 5] (by rfl) (by decide +kernel)) gg_c_M_isGuest_c_isIn_f) rfl rfl rfl (by decide +kernel) ⟨Nat.le_of_ble_eq_true rfl, Nat.le_of_ble_eq_true rfl⟩) ⟨Pre0.blind, Pre0.give hPc hKc hDc hT hS hFc⟩ rfl rfl hl.1 rfl (lv_room (Nat.le_of_ble_eq_true rfl)) dX6_isGuest_8 ⟨Nat.le_of_ble_eq_true rfl, Nat.le_of_ble_eq_true rfl⟩) hS (fun q _ h => hFc q h) hFc (fun r_3 u t H1 locs ht hvm hw hB hz1 hk1 hS => ?_)
  obtain ⟨hP1, hK1, hD1⟩ := hB
  rw [ht] at hP1
  have hK1 := va_K.moved hvm.symm hK1
  obtain ⟨hP, hD⟩ := va_join (wr := [(h0, .inr (11, [.int th, .int 0, .int 0, .int 0, .ref rq, .ref sbq]))]) (w1 := []) hP hD [] [0] rfl rfl (by decide) (by decide) hk1 hFc hP1 hD1
  generalize H1 = H at hP hS ⊢
  have hP : va_P (dC, dI) vwCl [(h0, .inr (11, [.int th, .int 0, .int 0, .int 0, .ref rq, .ref sbq]))] H := hP
  have hD : va_D A [(h0, .inr (11, [.int th, .int 0, .int 0, .int 0, .ref rq, .ref sbq]))] := hD
  refine W.widen (k := 0) (n := 0) (by omega) (by omega) ?_
  obtain rfl : r_3 = 0 := hw
  have hP9 := hP.sub (ws' := [(h0, .inr (11, [.int th, .int 0, .int 0, .int 0, .ref rq, .ref sbq]))]) [0] rfl
  have hD9 := hD.sub (ws' := [(h0, .inr (11, [.int th, .int 0, .int 0, .int 0, .ref rq, .ref sbq]))]) [0] (by decide) rfl
  have hK9 := hK.sub (tys' := []) [] rfl
  exact W.zret (v := 0) hx hb hr (by decide) (fun t ht hW => ⟨⟨0, (), rfl, rfl, by rw [ht]; exact hP9, va_K.moved hW.alike hK9, hD9⟩, hS.F ht⟩) hS.2.2 dX6_isGuest_11
def v_c_M_isRoom : List Cond := .code yX6_isRoom cX6_isRoom 3 (some .boolean) :: ([Cond.code yX6_isFloor cX6_isFloor 2 (some .boolean), Cond.fieldLink RX6 24 "HotelOfBellsModel" "floors" "I", Cond.code yX6_isIn cX6_isIn 3 (some .boolean), Cond.methodLink RX6 27 yX6_isIn, Cond.static yX6_isIn, Cond.initialized RX6, Cond.methodLink RX6 37 yX6_isFloor, Cond.instanceMethod yX6_isFloor, Cond.selects RX6 yX6_isFloor yX6_isFloor] ++ (wsX60 ++ []))
theorem u_c_M_isRoom_X6 : ∀ w ∈ wsX60, w ∈ v_c_M_isRoom := fun _ h => List.mem_cons_of_mem _ (List.mem_append_right _ (List.mem_append_left _ h))
theorem gg_c_M_isRoom_c_M_isFloor : GoodIn v_c_M_isRoom v_c_M_isFloor := goodIn_r _ [1, 2, 3, 4, 5, 6, 10, 11, 12, 13, 14, 15] (by rfl) (by decide +kernel)
set_option maxHeartbeats 4000000 in
set_option maxRecDepth 100000 in
theorem c_M_isRoom (l : Launch) (hl9 : l.stackTraces = false) (dC : Nat → ClassId) (dI : Nat → Nat → Nat) (tE : Nat) (h0 : Nat) (rq : Nat) (sbq : Nat) (th : Int32) (p0 : Int32) (p1 : Int32) (sz : Nat) : Met l yX6_isRoom v_c_M_isRoom ({ frames := 2, cells := 0, slots := 0, locals := 43 }) (va_Pc [.ref h0, .int p0, .int p1] (Pre0 dC dI tE sz [] [(h0, .inr (11, [.int th, .int 0, .int 0, .int 0, .ref rq, .ref sbq]))])) (va_Qi (fun (r : Int32) (_ : Unit) => r = 0) (fun _ t => Pst dC dI [] (va_A [(h0, .inr (11, [.int th, .int 0, .int 0, .int 0, .ref rq, .ref sbq]))] sz) [(h0, .inr (11, [.int th, .int 0, .int 0, .int 0, .ref rq, .ref sbq]))] t) (va_A [(h0, .inr (11, [.int th, .int 0, .int 0, .int 0, .ref rq, .ref sbq]))] sz)) 0 0 (va_A [(h0, .inr (11, [.int th, .int 0, .int 0, .int 0, .ref rq, .ref sbq]))] sz) := by
  refine Met.ofW (cc := cX6_isRoom) (maxL := 3) (ret := (some .boolean)) (by decide) rfl ?_
  intro p e s m args below meth c s₁ B hml hv
  obtain ⟨rfl, hsz, hP, hK, hD0, hT⟩ := hv
  have hx := B.exec
  have hb := B.bytes
  have hr := B.returns
  have hts := atoms_spec (ws := v_c_M_isRoom) B.pre
  have hown : s.vm.findClass RX6 = some m.cls := findClass_of_methodNamed B.named
  have hlocks := B.notSynchronized
  subst hsz
  have hD := hD0.self (sz := s.heap.size)
  generalize hAe : va_A [(h0, .inr (11, [.int th, .int 0, .int 0, .int 0, .ref rq, .ref sbq]))] s.heap.size = A at hD hT ⊢
  have hA : ∀ q : Nat, s.heap.size ≤ q → A q := fun q h => by rw [← hAe]; exact Or.inr h
  have hS : va_S A s.heap s.heap [] := va_S.rf
  have hl := lv_entry ([.ref h0, .int p0, .int p1]) (n := 3) (Nat.le_of_ble_eq_true rfl)
  rw [lg_entry_eq]
  generalize (lg_sl ([.ref h0, .int p0, .int p1]) ++ List.replicate (3 - (lg_sl ([.ref h0, .int p0, .int p1])).length) Slot.unset).toArray = ls at hl ⊢
  have hl : lv_has ls 3 [(0, .ref h0), (1, .int p0), (2, .int p1)] := hl
  refine lv_aload_n hx hb dX6_isRoom_0 rfl (lv_at hl 0 rfl) ?_
  refine lv_iload_n hx hb dX6_isRoom_1 rfl (lv_at hl 1 rfl) ?_
  have hPc := hP.sub (ws' := [(h0, .inr (11, [.int th, .int 0, .int 0, .int 0, .ref rq, .ref sbq]))]) [0] rfl
  have hDc := hD.sub (ws' := [(h0, .inr (11, [.int th, .int 0, .int 0, .int 0, .ref rq, .ref sbq]))]) [0] (by decide) rfl
  have hKc := hK.sub (tys' := []) [] rfl
  have hFc := va_free (wc := [(h0, .inr (11, [.int th, .int 0, .int 0, .int 0, .ref rq, .ref sbq]))]) hD hS hA [0] rfl
  refine va_calli (va_runV (As := [.int p0]) (rest := []) ⟨hx, hb, hml, hown, hts⟩ (c_M_isFloor l hl9 dC dI tE h0 rq sbq th p0 _ ) (cwV 1 hts (goodIn_app (goodIn_r _ [7, 8, 9, 6] (by rfl) (by decide +kernel)) gg_c_M_isRoom_c_M_isFloor) rfl rfl rfl (by decide +kernel) ⟨Nat.le_of_ble_eq_true rfl, Nat.le_of_ble_eq_true rfl⟩) ⟨Pre0.blind, va_recv hKc hPc (ci := 11) (q0 := 0) rfl rfl, Pre0.give hPc hKc hDc hT hS hFc⟩ rfl rfl hl.1 rfl (lv_room (Nat.le_of_ble_eq_true rfl)) dX6_isRoom_2 ⟨Nat.le_of_ble_eq_true rfl, Nat.le_of_ble_eq_true rfl⟩) hS (fun q _ h => hFc q h) hFc (fun r_1 u t H1 locs ht hvm hw hB hz1 hk1 hS => ?_)
  obtain ⟨hP1, hK1, hD1⟩ := hB
  rw [ht] at hP1
  have hK1 := va_K.moved hvm.symm hK1
  obtain ⟨hP, hD⟩ := va_join (wr := []) (w1 := [(h0, .inr (11, [.int th, .int 0, .int 0, .int 0, .ref rq, .ref sbq]))]) hP hD [0] [] rfl rfl (by decide) (by decide) hk1 hFc hP1 hD1
  generalize H1 = H at hP hS ⊢
  have hP : va_P (dC, dI) vwCl [(h0, .inr (11, [.int th, .int 0, .int 0, .int 0, .ref rq, .ref sbq]))] H := hP
  have hD : va_D A [(h0, .inr (11, [.int th, .int 0, .int 0, .int 0, .ref rq, .ref sbq]))] := hD
  refine W.widen (k := 0) (n := 0) (by omega) (by omega) ?_
  obtain rfl : r_1 = 0 := hw
  refine lv_if_eq (tgt := 28) hx hb dX6_isRoom_5 (by decide) (fun _ => ?_) (fun c_2 => absurd (by decide) c_2)
  refine lv_iconst (v := 0) hx hb dX6_isRoom_28 (by decide) ?_
  have hP9 := hP.sub (ws' := [(h0, .inr (11, [.int th, .int 0, .int 0, .int 0, .ref rq, .ref sbq]))]) [0] rfl
  have hD9 := hD.sub (ws' := [(h0, .inr (11, [.int th, .int 0, .int 0, .int 0, .ref rq, .ref sbq]))]) [0] (by decide) rfl
  have hK9 := hK.sub (tys' := []) [] rfl
  exact W.zret (v := 0) hx hb hr (by decide) (fun t ht hW => ⟨⟨0, (), rfl, rfl, by rw [ht]; exact hP9, va_K.moved hW.alike hK9, hD9⟩, hS.F ht⟩) hS.2.2 dX6_isRoom_29
def v_c_M_addFloor_t : List Cond := .code yX6_addFloor cX6_addFloor 2 (some .int) :: ([Cond.fieldLink RX6 20 "HotelOfBellsModel" "thrown" "I", Cond.code yX6_isIn cX6_isIn 3 (some .boolean), Cond.methodLink RX6 27 yX6_isIn, Cond.static yX6_isIn, Cond.initialized RX6, Cond.fieldLink RX6 24 "HotelOfBellsModel" "floors" "I", Cond.code yX6_setFl cX6_setFl 4 none, Cond.fieldLink RX6 9 "HotelOfBellsModel" "row" "[I", Cond.methodLink RX6 49 yX6_setFl, Cond.instanceMethod yX6_setFl, Cond.selects RX6 yX6_setFl yX6_setFl] ++ (wsX60 ++ []))
theorem u_c_M_addFloor_t_X6 : ∀ w ∈ wsX60, w ∈ v_c_M_addFloor_t := fun _ h => List.mem_cons_of_mem _ (List.mem_append_right _ (List.mem_append_left _ h))
theorem gg_c_M_addFloor_t_c_isIn_t : GoodIn v_c_M_addFloor_t v_c_isIn_t := goodIn_r _ [2] (by rfl) (by decide +kernel)
theorem gg_c_M_addFloor_t_c_setFl_0 : GoodIn v_c_M_addFloor_t v_c_setFl_0 := goodIn_r _ [7, 8, 12, 13, 14, 15, 16, 17] (by rfl) (by decide +kernel)
theorem gg_c_M_addFloor_t_c_setFl_2 : GoodIn v_c_M_addFloor_t v_c_setFl_2 := goodIn_r _ [7, 8, 12, 13, 14, 15, 16, 17] (by rfl) (by decide +kernel)
set_option maxHeartbeats 4000000 in
set_option maxRecDepth 100000 in
theorem c_M_addFloor_t (l : Launch) (hl9 : l.stackTraces = false) (dC : Nat → ClassId) (dI : Nat → Nat → Nat) (tE : Nat) (h0 : Nat) (rq : Nat) (sbq : Nat) (th : Int32) (ci : ClassId) (fr : Nat → Int32) (p0 : Int32) (sz : Nat) (h1 : ¬ p0 < 3) (h2 : ¬ 12 < p0) : Met l yX6_addFloor v_c_M_addFloor_t ({ frames := 1, cells := 0, slots := 0, locals := 23 }) (va_Pc [.ref h0, .int p0] (Pre0 dC dI tE sz [(ci, .int)] [(h0, .inr (11, [.int th, .int 0, .int 0, .int 0, .ref rq, .ref sbq])), (rq, .inl (ci, 119, .inl fr))])) (va_Qi (fun (r : Int32) (_ : Unit) => r = 0) (fun _ t => ∃ (fx0 : Nat → Int32), Pst dC dI [(ci, .int)] (va_A [(h0, .inr (11, [.int th, .int 0, .int 0, .int 0, .ref rq, .ref sbq])), (rq, .inl (ci, 119, .inl fr))] sz) [(h0, .inr (11, [.int 0, .int 1, .int 0, .int 0, .ref rq, .ref sbq])), (rq, .inl (ci, 119, .inl fx0))] t) (va_A [(h0, .inr (11, [.int th, .int 0, .int 0, .int 0, .ref rq, .ref sbq])), (rq, .inl (ci, 119, .inl fr))] sz)) 0 0 (va_A [(h0, .inr (11, [.int th, .int 0, .int 0, .int 0, .ref rq, .ref sbq])), (rq, .inl (ci, 119, .inl fr))] sz) := by
  refine Met.ofW (cc := cX6_addFloor) (maxL := 2) (ret := (some .int)) (by decide) rfl ?_
  intro p e s m args below meth c s₁ B hml hv
  obtain ⟨rfl, hsz, hP, hK, hD0, hT⟩ := hv
  have hx := B.exec
  have hb := B.bytes
  have hr := B.returns
  have hts := atoms_spec (ws := v_c_M_addFloor_t) B.pre
  have hown : s.vm.findClass RX6 = some m.cls := findClass_of_methodNamed B.named
  have hlocks := B.notSynchronized
  subst hsz
  have hD := hD0.self (sz := s.heap.size)
  generalize hAe : va_A [(h0, .inr (11, [.int th, .int 0, .int 0, .int 0, .ref rq, .ref sbq])), (rq, .inl (ci, 119, .inl fr))] s.heap.size = A at hD hT ⊢
  have hA : ∀ q : Nat, s.heap.size ≤ q → A q := fun q h => by rw [← hAe]; exact Or.inr h
  have hS : va_S A s.heap s.heap [] := va_S.rf
  have hl := lv_entry ([.ref h0, .int p0]) (n := 2) (Nat.le_of_ble_eq_true rfl)
  rw [lg_entry_eq]
  generalize (lg_sl ([.ref h0, .int p0]) ++ List.replicate (2 - (lg_sl ([.ref h0, .int p0])).length) Slot.unset).toArray = ls at hl ⊢
  have hl : lv_has ls 2 [(0, .ref h0), (1, .int p0)] := hl
  refine lv_aload_n hx hb dX6_addFloor_0 rfl (lv_at hl 0 rfl) ?_
  refine lv_iconst (v := 0) hx hb dX6_addFloor_1 (by decide) ?_
  refine va_put (D := (dC, dI)) (ci := 11) (v := .int 0) (ty := .int) (C := RX6) (T := TX6) (N := 6) hx hb hts u_c_M_addFloor_t_X6 tyX6 tyX6_ok nmX6 hown hK hP hD hS 0 rfl rfl 0 (by decide) (hts (.fieldLink RX6 20 "HotelOfBellsModel" "thrown" "I") (List.mem_of_getElem? (i := 1) rfl)) (fun _ h9 => h9) rfl (by decide +kernel) rfl rfl (Nat.le_of_ble_eq_true rfl) dX6_addFloor_2 (fun H locs hP hD hS => ?_)
  have hP : va_P (dC, dI) vwCl [(h0, .inr (11, [.int 0, .int 0, .int 0, .int 0, .ref rq, .ref sbq])), (rq, .inl (ci, 119, .inl fr))] H := hP
  have hD : va_D A [(h0, .inr (11, [.int 0, .int 0, .int 0, .int 0, .ref rq, .ref sbq])), (rq, .inl (ci, 119, .inl fr))] := hD
  refine lv_iload_n hx hb dX6_addFloor_5 rfl (lv_at hl 1 rfl) ?_
  refine lv_iconst (v := 3) hx hb dX6_addFloor_6 (by decide) ?_
  refine lv_bipush (v := 12) hx hb dX6_addFloor_7 (by decide) ?_
  have hPc := hP.sub (ws' := []) [] rfl
  have hDc := hD.sub (ws' := []) [] (by decide) rfl
  have hKc := hK.sub (tys' := []) [] rfl
  have hFc := va_free (wc := []) hD hS hA [] rfl
  refine va_calli (va_runS (As := [.int p0, .int 3, .int 12]) (rest := []) ⟨hx, hb, hml, hown, hts⟩ (c_isIn_t l hl9 dC dI tE p0 3 12 _ h1 h2) (va_cwS 3 hts (goodIn_app (goodIn_r _ [3, 4, 5] (by rfl) (by decide +kernel)) gg_c_M_addFloor_t_c_isIn_t) rfl rfl rfl (by decide +kernel) ⟨Nat.le_of_ble_eq_true rfl, Nat.le_of_ble_eq_true rfl⟩) ⟨Pre0.blind, Pre0.give hPc hKc hDc hT hS hFc⟩ rfl rfl hl.1 rfl (lv_room (Nat.le_of_ble_eq_true rfl)) dX6_addFloor_9 ⟨Nat.le_of_ble_eq_true rfl, Nat.le_of_ble_eq_true rfl⟩) hS (fun q _ h => hFc q h) hFc (fun r_1 u t H1 locs ht hvm hw hB hz1 hk1 hS => ?_)
  obtain ⟨hP1, hK1, hD1⟩ := hB
  rw [ht] at hP1
  have hK1 := va_K.moved hvm.symm hK1
  obtain ⟨hP, hD⟩ := va_join (wr := [(h0, .inr (11, [.int 0, .int 0, .int 0, .int 0, .ref rq, .ref sbq])), (rq, .inl (ci, 119, .inl fr))]) (w1 := []) hP hD [] [0, 1] rfl rfl (by decide) (by decide) hk1 hFc hP1 hD1
  generalize H1 = H at hP hS ⊢
  have hP : va_P (dC, dI) vwCl [(h0, .inr (11, [.int 0, .int 0, .int 0, .int 0, .ref rq, .ref sbq])), (rq, .inl (ci, 119, .inl fr))] H := hP
  have hD : va_D A [(h0, .inr (11, [.int 0, .int 0, .int 0, .int 0, .ref rq, .ref sbq])), (rq, .inl (ci, 119, .inl fr))] := hD
  refine W.widen (k := 0) (n := 0) (by omega) (by omega) ?_
  obtain rfl : r_1 = 1 := hw
  refine lv_if_ne (tgt := 21) hx hb dX6_addFloor_12 (by decide) (fun _ => ?_) (fun c_2 => absurd c_2 (by decide))
  refine lv_aload_n hx hb dX6_addFloor_21 rfl (lv_at hl 0 rfl) ?_
  refine va_get (D := (dC, dI)) (ci := 11) (v := .int 0) (C := RX6) (T := TX6) (N := 6) hx hb hts u_c_M_addFloor_t_X6 hown hK hP 0 rfl rfl 1 (by decide) (hts (.fieldLink RX6 24 "HotelOfBellsModel" "floors" "I") (List.mem_of_getElem? (i := 6) rfl)) (fun _ h9 => h9) rfl dX6_addFloor_22 ?_
  refine lv_bipush (v := 6) hx hb dX6_addFloor_25 (by decide) ?_
  refine lv_icmp_ne (tgt := 36) hx hb dX6_addFloor_27 (by decide) (fun _ => ?_) (fun c_3 => absurd c_3 (by decide))
  refine lv_aload_n hx hb dX6_addFloor_36 rfl (lv_at hl 0 rfl) ?_
  refine lv_aload_n hx hb dX6_addFloor_37 rfl (lv_at hl 0 rfl) ?_
  refine va_get (D := (dC, dI)) (ci := 11) (v := .int 0) (C := RX6) (T := TX6) (N := 6) hx hb hts u_c_M_addFloor_t_X6 hown hK hP 0 rfl rfl 1 (by decide) (hts (.fieldLink RX6 24 "HotelOfBellsModel" "floors" "I") (List.mem_of_getElem? (i := 6) rfl)) (fun _ h9 => h9) rfl dX6_addFloor_38 ?_
  refine lv_iconst (v := 0) hx hb dX6_addFloor_41 (by decide) ?_
  refine lv_iload_n hx hb dX6_addFloor_42 rfl (lv_at hl 1 rfl) ?_
  have hPc := hP.sub (ws' := [(h0, .inr (11, [.int 0, .int 0, .int 0, .int 0, .ref rq, .ref sbq])), (rq, .inl (ci, 119, .inl fr))]) [0, 1] rfl
  have hDc := hD.sub (ws' := [(h0, .inr (11, [.int 0, .int 0, .int 0, .int 0, .ref rq, .ref sbq])), (rq, .inl (ci, 119, .inl fr))]) [0, 1] (by decide) rfl
  have hKc := hK.sub (tys' := [(ci, .int)]) [0] rfl
  have hFc := va_free (wc := [(h0, .inr (11, [.int 0, .int 0, .int 0, .int 0, .ref rq, .ref sbq])), (rq, .inl (ci, 119, .inl fr))]) hD hS hA [0, 1] rfl
  refine va_callv (va_runV (As := [.int 0, .int 0, .int p0]) (rest := []) ⟨hx, hb, hml, hown, hts⟩ (c_setFl_0 l hl9 dC dI tE h0 rq sbq 0 0 0 0 ci fr p0 _ ) (cwV 3 hts (goodIn_app (goodIn_r _ [9, 10, 11, 5] (by rfl) (by decide +kernel)) gg_c_M_addFloor_t_c_setFl_0) rfl rfl rfl (by decide +kernel) ⟨Nat.le_of_ble_eq_true rfl, Nat.le_of_ble_eq_true rfl⟩) ⟨Pre0.blind, va_recv hKc hPc (ci := 11) (q0 := 0) rfl rfl, Pre0.give hPc hKc hDc hT hS hFc⟩ rfl rfl hl.1 rfl (lv_room (Nat.le_of_ble_eq_true rfl)) dX6_addFloor_43 ⟨Nat.le_of_ble_eq_true rfl, Nat.le_of_ble_eq_true rfl⟩) hS (fun q _ h => hFc q h) hFc (fun u t H1 locs ht hvm hw hB hz1 hk1 hS => ?_)
  obtain ⟨fx_5, hP1, hK1, hD1⟩ := hB
  rw [ht] at hP1
  have hK1 := va_K.moved hvm.symm hK1
  obtain ⟨hP, hD⟩ := va_join (wr := []) (w1 := [(h0, .inr (11, [.int 0, .int 0, .int 0, .int 0, .ref rq, .ref sbq])), (rq, .inl (ci, 119, .inl fx_5))]) hP hD [0, 1] [] rfl rfl (by decide) (by decide) hk1 hFc hP1 hD1
  generalize H1 = H at hP hS ⊢
  have hP : va_P (dC, dI) vwCl [(h0, .inr (11, [.int 0, .int 0, .int 0, .int 0, .ref rq, .ref sbq])), (rq, .inl (ci, 119, .inl fx_5))] H := hP
  have hD : va_D A [(h0, .inr (11, [.int 0, .int 0, .int 0, .int 0, .ref rq, .ref sbq])), (rq, .inl (ci, 119, .inl fx_5))] := hD
  refine W.widen (k := 0) (n := 0) (by omega) (by omega) ?_
  refine lv_aload_n hx hb dX6_addFloor_46 rfl (lv_at hl 0 rfl) ?_
  refine lv_aload_n hx hb dX6_addFloor_47 rfl (lv_at hl 0 rfl) ?_
  refine va_get (D := (dC, dI)) (ci := 11) (v := .int 0) (C := RX6) (T := TX6) (N := 6) hx hb hts u_c_M_addFloor_t_X6 hown hK hP 0 rfl rfl 1 (by decide) (hts (.fieldLink RX6 24 "HotelOfBellsModel" "floors" "I") (List.mem_of_getElem? (i := 6) rfl)) (fun _ h9 => h9) rfl dX6_addFloor_48 ?_
  refine lv_iconst (v := 2) hx hb dX6_addFloor_51 (by decide) ?_
  refine lv_iconst (v := 1) hx hb dX6_addFloor_52 (by decide) ?_
  have hPc := hP.sub (ws' := [(h0, .inr (11, [.int 0, .int 0, .int 0, .int 0, .ref rq, .ref sbq])), (rq, .inl (ci, 119, .inl fx_5))]) [0, 1] rfl
  have hDc := hD.sub (ws' := [(h0, .inr (11, [.int 0, .int 0, .int 0, .int 0, .ref rq, .ref sbq])), (rq, .inl (ci, 119, .inl fx_5))]) [0, 1] (by decide) rfl
  have hKc := hK.sub (tys' := [(ci, .int)]) [0] rfl
  have hFc := va_free (wc := [(h0, .inr (11, [.int 0, .int 0, .int 0, .int 0, .ref rq, .ref sbq])), (rq, .inl (ci, 119, .inl fx_5))]) hD hS hA [0, 1] rfl
  refine va_callv (va_runV (As := [.int 0, .int 2, .int 1]) (rest := []) ⟨hx, hb, hml, hown, hts⟩ (c_setFl_2 l hl9 dC dI tE h0 rq sbq 0 0 0 0 ci fx_5 1 _ ) (cwV 3 hts (goodIn_app (goodIn_r _ [9, 10, 11, 5] (by rfl) (by decide +kernel)) gg_c_M_addFloor_t_c_setFl_2) rfl rfl rfl (by decide +kernel) ⟨Nat.le_of_ble_eq_true rfl, Nat.le_of_ble_eq_true rfl⟩) ⟨Pre0.blind, va_recv hKc hPc (ci := 11) (q0 := 0) rfl rfl, Pre0.give hPc hKc hDc hT hS hFc⟩ rfl rfl hl.1 rfl (lv_room (Nat.le_of_ble_eq_true rfl)) dX6_addFloor_53 ⟨Nat.le_of_ble_eq_true rfl, Nat.le_of_ble_eq_true rfl⟩) hS (fun q _ h => hFc q h) hFc (fun u t H1 locs ht hvm hw hB hz1 hk1 hS => ?_)
  obtain ⟨fx_7, hP1, hK1, hD1⟩ := hB
  rw [ht] at hP1
  have hK1 := va_K.moved hvm.symm hK1
  obtain ⟨hP, hD⟩ := va_join (wr := []) (w1 := [(h0, .inr (11, [.int 0, .int 0, .int 0, .int 0, .ref rq, .ref sbq])), (rq, .inl (ci, 119, .inl fx_7))]) hP hD [0, 1] [] rfl rfl (by decide) (by decide) hk1 hFc hP1 hD1
  generalize H1 = H at hP hS ⊢
  have hP : va_P (dC, dI) vwCl [(h0, .inr (11, [.int 0, .int 0, .int 0, .int 0, .ref rq, .ref sbq])), (rq, .inl (ci, 119, .inl fx_7))] H := hP
  have hD : va_D A [(h0, .inr (11, [.int 0, .int 0, .int 0, .int 0, .ref rq, .ref sbq])), (rq, .inl (ci, 119, .inl fx_7))] := hD
  refine W.widen (k := 0) (n := 0) (by omega) (by omega) ?_
  refine lv_aload_n hx hb dX6_addFloor_56 rfl (lv_at hl 0 rfl) ?_
  refine lv_dup hx hb dX6_addFloor_57 rfl ?_
  refine va_get (D := (dC, dI)) (ci := 11) (v := .int 0) (C := RX6) (T := TX6) (N := 6) hx hb hts u_c_M_addFloor_t_X6 hown hK hP 0 rfl rfl 1 (by decide) (hts (.fieldLink RX6 24 "HotelOfBellsModel" "floors" "I") (List.mem_of_getElem? (i := 6) rfl)) (fun _ h9 => h9) rfl dX6_addFloor_58 ?_
  refine lv_iconst (v := 1) hx hb dX6_addFloor_61 (by decide) ?_
  refine lv_iadd hx hb dX6_addFloor_62 ?_
  refine lv_topi (fun x_8 e_9 => ?_)
  obtain rfl : x_8 = 1 := e_9.trans (by decide)
  refine va_put (D := (dC, dI)) (ci := 11) (v := .int 1) (ty := .int) (C := RX6) (T := TX6) (N := 6) hx hb hts u_c_M_addFloor_t_X6 tyX6 tyX6_ok nmX6 hown hK hP hD hS 0 rfl rfl 1 (by decide) (hts (.fieldLink RX6 24 "HotelOfBellsModel" "floors" "I") (List.mem_of_getElem? (i := 6) rfl)) (fun _ h9 => h9) rfl (by decide +kernel) rfl rfl (Nat.le_of_ble_eq_true rfl) dX6_addFloor_63 (fun H locs hP hD hS => ?_)
  have hP : va_P (dC, dI) vwCl [(h0, .inr (11, [.int 0, .int 1, .int 0, .int 0, .ref rq, .ref sbq])), (rq, .inl (ci, 119, .inl fx_7))] H := hP
  have hD : va_D A [(h0, .inr (11, [.int 0, .int 1, .int 0, .int 0, .ref rq, .ref sbq])), (rq, .inl (ci, 119, .inl fx_7))] := hD
  refine lv_aload_n hx hb dX6_addFloor_66 rfl (lv_at hl 0 rfl) ?_
  refine va_get (D := (dC, dI)) (ci := 11) (v := .int 1) (C := RX6) (T := TX6) (N := 6) hx hb hts u_c_M_addFloor_t_X6 hown hK hP 0 rfl rfl 1 (by decide) (hts (.fieldLink RX6 24 "HotelOfBellsModel" "floors" "I") (List.mem_of_getElem? (i := 6) rfl)) (fun _ h9 => h9) rfl dX6_addFloor_67 ?_
  refine lv_iconst (v := 1) hx hb dX6_addFloor_70 (by decide) ?_
  refine lv_isub hx hb dX6_addFloor_71 ?_
  refine lv_topi (fun x_10 e_11 => ?_)
  obtain rfl : x_10 = 0 := e_11.trans (by decide)
  have hP9 := hP.sub (ws' := [(h0, .inr (11, [.int 0, .int 1, .int 0, .int 0, .ref rq, .ref sbq])), (rq, .inl (ci, 119, .inl fx_7))]) [0, 1] rfl
  have hD9 := hD.sub (ws' := [(h0, .inr (11, [.int 0, .int 1, .int 0, .int 0, .ref rq, .ref sbq])), (rq, .inl (ci, 119, .inl fx_7))]) [0, 1] (by decide) rfl
  have hK9 := hK.sub (tys' := [(ci, .int)]) [0] rfl
  exact W.iret (v := 0) hx hb hr (fun t ht hW => ⟨⟨0, (), rfl, rfl, fx_7, by rw [ht]; exact hP9, va_K.moved hW.alike hK9, hD9⟩, hS.F ht⟩) hS.2.2 dX6_addFloor_72
def v_c_M_addFloor_f : List Cond := .code yX6_addFloor cX6_addFloor 2 (some .int) :: ([Cond.fieldLink RX6 20 "HotelOfBellsModel" "thrown" "I", Cond.code yX6_isIn cX6_isIn 3 (some .boolean), Cond.methodLink RX6 27 yX6_isIn, Cond.static yX6_isIn, Cond.initialized RX6, Cond.code yX6_fail cX6_fail 2 (some .int), Cond.methodLink RX6 45 yX6_fail, Cond.instanceMethod yX6_fail, Cond.selects RX6 yX6_fail yX6_fail] ++ (wsX60 ++ []))
theorem u_c_M_addFloor_f_X6 : ∀ w ∈ wsX60, w ∈ v_c_M_addFloor_f := fun _ h => List.mem_cons_of_mem _ (List.mem_append_right _ (List.mem_append_left _ h))
theorem gg_c_M_addFloor_f_c_isIn_f : GoodIn v_c_M_addFloor_f v_c_isIn_f := goodIn_r _ [2] (by rfl) (by decide +kernel)
theorem gg_c_M_addFloor_f_c_M_fail : GoodIn v_c_M_addFloor_f v_c_M_fail := goodIn_r _ [6, 1, 10, 11, 12, 13, 14, 15] (by rfl) (by decide +kernel)
set_option maxHeartbeats 4000000 in
set_option maxRecDepth 100000 in
theorem c_M_addFloor_f (l : Launch) (hl9 : l.stackTraces = false) (dC : Nat → ClassId) (dI : Nat → Nat → Nat) (tE : Nat) (h0 : Nat) (rq : Nat) (sbq : Nat) (th : Int32) (p0 : Int32) (sz : Nat) (h : p0 < 3 ∨ 12 < p0) : Met l yX6_addFloor v_c_M_addFloor_f ({ frames := 1, cells := 0, slots := 0, locals := 22 }) (va_Pc [.ref h0, .int p0] (Pre0 dC dI tE sz [] [(h0, .inr (11, [.int th, .int 0, .int 0, .int 0, .ref rq, .ref sbq]))])) (va_Qi (fun (r : Int32) (_ : Unit) => r = 0) (fun _ t => Pst dC dI [] (va_A [(h0, .inr (11, [.int th, .int 0, .int 0, .int 0, .ref rq, .ref sbq]))] sz) [(h0, .inr (11, [.int 1, .int 0, .int 0, .int 0, .ref rq, .ref sbq]))] t) (va_A [(h0, .inr (11, [.int th, .int 0, .int 0, .int 0, .ref rq, .ref sbq]))] sz)) 0 0 (va_A [(h0, .inr (11, [.int th, .int 0, .int 0, .int 0, .ref rq, .ref sbq]))] sz) := by
  refine Met.ofW (cc := cX6_addFloor) (maxL := 2) (ret := (some .int)) (by decide) rfl ?_
  intro p e s m args below meth c s₁ B hml hv
  obtain ⟨rfl, hsz, hP, hK, hD0, hT⟩ := hv
  have hx := B.exec
  have hb := B.bytes
  have hr := B.returns
  have hts := atoms_spec (ws := v_c_M_addFloor_f) B.pre
  have hown : s.vm.findClass RX6 = some m.cls := findClass_of_methodNamed B.named
  have hlocks := B.notSynchronized
  subst hsz
  have hD := hD0.self (sz := s.heap.size)
  generalize hAe : va_A [(h0, .inr (11, [.int th, .int 0, .int 0, .int 0, .ref rq, .ref sbq]))] s.heap.size = A at hD hT ⊢
  have hA : ∀ q : Nat, s.heap.size ≤ q → A q := fun q h => by rw [← hAe]; exact Or.inr h
  have hS : va_S A s.heap s.heap [] := va_S.rf
  have hl := lv_entry ([.ref h0, .int p0]) (n := 2) (Nat.le_of_ble_eq_true rfl)
  rw [lg_entry_eq]
  generalize (lg_sl ([.ref h0, .int p0]) ++ List.replicate (2 - (lg_sl ([.ref h0, .int p0])).length) Slot.unset).toArray = ls at hl ⊢
  have hl : lv_has ls 2 [(0, .ref h0), (1, .int p0)] := hl
  refine lv_aload_n hx hb dX6_addFloor_0 rfl (lv_at hl 0 rfl) ?_
  refine lv_iconst (v := 0) hx hb dX6_addFloor_1 (by decide) ?_
  refine va_put (D := (dC, dI)) (ci := 11) (v := .int 0) (ty := .int) (C := RX6) (T := TX6) (N := 6) hx hb hts u_c_M_addFloor_f_X6 tyX6 tyX6_ok nmX6 hown hK hP hD hS 0 rfl rfl 0 (by decide) (hts (.fieldLink RX6 20 "HotelOfBellsModel" "thrown" "I") (List.mem_of_getElem? (i := 1) rfl)) (fun _ h9 => h9) rfl (by decide +kernel) rfl rfl (Nat.le_of_ble_eq_true rfl) dX6_addFloor_2 (fun H locs hP hD hS => ?_)
  have hP : va_P (dC, dI) vwCl [(h0, .inr (11, [.int 0, .int 0, .int 0, .int 0, .ref rq, .ref sbq]))] H := hP
  have hD : va_D A [(h0, .inr (11, [.int 0, .int 0, .int 0, .int 0, .ref rq, .ref sbq]))] := hD
  refine lv_iload_n hx hb dX6_addFloor_5 rfl (lv_at hl 1 rfl) ?_
  refine lv_iconst (v := 3) hx hb dX6_addFloor_6 (by decide) ?_
  refine lv_bipush (v := 12) hx hb dX6_addFloor_7 (by decide) ?_
  have hPc := hP.sub (ws' := []) [] rfl
  have hDc := hD.sub (ws' := []) [] (by decide) rfl
  have hKc := hK.sub (tys' := []) [] rfl
  have hFc := va_free (wc := []) hD hS hA [] rfl
  refine va_calli (va_runS (As := [.int p0, .int 3, .int 12]) (rest := []) ⟨hx, hb, hml, hown, hts⟩ (c_isIn_f l hl9 dC dI tE p0 3 12 _ h) (va_cwS 3 hts (goodIn_app (goodIn_r _ [3, 4, 5] (by rfl) (by decide +kernel)) gg_c_M_addFloor_f_c_isIn_f) rfl rfl rfl (by decide +kernel) ⟨Nat.le_of_ble_eq_true rfl, Nat.le_of_ble_eq_true rfl⟩) ⟨Pre0.blind, Pre0.give hPc hKc hDc hT hS hFc⟩ rfl rfl hl.1 rfl (lv_room (Nat.le_of_ble_eq_true rfl)) dX6_addFloor_9 ⟨Nat.le_of_ble_eq_true rfl, Nat.le_of_ble_eq_true rfl⟩) hS (fun q _ h => hFc q h) hFc (fun r_1 u t H1 locs ht hvm hw hB hz1 hk1 hS => ?_)
  obtain ⟨hP1, hK1, hD1⟩ := hB
  rw [ht] at hP1
  have hK1 := va_K.moved hvm.symm hK1
  obtain ⟨hP, hD⟩ := va_join (wr := [(h0, .inr (11, [.int 0, .int 0, .int 0, .int 0, .ref rq, .ref sbq]))]) (w1 := []) hP hD [] [0] rfl rfl (by decide) (by decide) hk1 hFc hP1 hD1
  generalize H1 = H at hP hS ⊢
  have hP : va_P (dC, dI) vwCl [(h0, .inr (11, [.int 0, .int 0, .int 0, .int 0, .ref rq, .ref sbq]))] H := hP
  have hD : va_D A [(h0, .inr (11, [.int 0, .int 0, .int 0, .int 0, .ref rq, .ref sbq]))] := hD
  refine W.widen (k := 0) (n := 0) (by omega) (by omega) ?_
  obtain rfl : r_1 = 0 := hw
  refine lv_if_ne (tgt := 21) hx hb dX6_addFloor_12 (by decide) (fun c_2 => absurd (by decide) c_2) (fun _ => ?_)
  refine lv_aload_n hx hb dX6_addFloor_15 rfl (lv_at hl 0 rfl) ?_
  refine lv_iconst (v := 1) hx hb dX6_addFloor_16 (by decide) ?_
  have hPc := hP.sub (ws' := [(h0, .inr (11, [.int 0, .int 0, .int 0, .int 0, .ref rq, .ref sbq]))]) [0] rfl
  have hDc := hD.sub (ws' := [(h0, .inr (11, [.int 0, .int 0, .int 0, .int 0, .ref rq, .ref sbq]))]) [0] (by decide) rfl
  have hKc := hK.sub (tys' := []) [] rfl
  have hFc := va_free (wc := [(h0, .inr (11, [.int 0, .int 0, .int 0, .int 0, .ref rq, .ref sbq]))]) hD hS hA [0] rfl
  refine va_calli (va_runV (As := [.int 1]) (rest := []) ⟨hx, hb, hml, hown, hts⟩ (c_M_fail l hl9 dC dI tE h0 rq sbq 0 0 0 0 1 _ ) (cwV 1 hts (goodIn_app (goodIn_r _ [7, 8, 9, 5] (by rfl) (by decide +kernel)) gg_c_M_addFloor_f_c_M_fail) rfl rfl rfl (by decide +kernel) ⟨Nat.le_of_ble_eq_true rfl, Nat.le_of_ble_eq_true rfl⟩) ⟨Pre0.blind, va_recv hKc hPc (ci := 11) (q0 := 0) rfl rfl, Pre0.give hPc hKc hDc hT hS hFc⟩ rfl rfl hl.1 rfl (lv_room (Nat.le_of_ble_eq_true rfl)) dX6_addFloor_17 ⟨Nat.le_of_ble_eq_true rfl, Nat.le_of_ble_eq_true rfl⟩) hS (fun q _ h => hFc q h) hFc (fun r_3 u t H1 locs ht hvm hw hB hz1 hk1 hS => ?_)
  obtain ⟨hP1, hK1, hD1⟩ := hB
  rw [ht] at hP1
  have hK1 := va_K.moved hvm.symm hK1
  obtain ⟨hP, hD⟩ := va_join (wr := []) (w1 := [(h0, .inr (11, [.int 1, .int 0, .int 0, .int 0, .ref rq, .ref sbq]))]) hP hD [0] [] rfl rfl (by decide) (by decide) hk1 hFc hP1 hD1
  generalize H1 = H at hP hS ⊢
  have hP : va_P (dC, dI) vwCl [(h0, .inr (11, [.int 1, .int 0, .int 0, .int 0, .ref rq, .ref sbq]))] H := hP
  have hD : va_D A [(h0, .inr (11, [.int 1, .int 0, .int 0, .int 0, .ref rq, .ref sbq]))] := hD
  refine W.widen (k := 0) (n := 0) (by omega) (by omega) ?_
  obtain rfl : r_3 = 0 := hw
  have hP9 := hP.sub (ws' := [(h0, .inr (11, [.int 1, .int 0, .int 0, .int 0, .ref rq, .ref sbq]))]) [0] rfl
  have hD9 := hD.sub (ws' := [(h0, .inr (11, [.int 1, .int 0, .int 0, .int 0, .ref rq, .ref sbq]))]) [0] (by decide) rfl
  have hK9 := hK.sub (tys' := []) [] rfl
  exact W.iret (v := 0) hx hb hr (fun t ht hW => ⟨⟨0, (), rfl, rfl, by rw [ht]; exact hP9, va_K.moved hW.alike hK9, hD9⟩, hS.F ht⟩) hS.2.2 dX6_addFloor_20
def v_c_M_setTune : List Cond := .code yX6_setTune cX6_setTune 5 (some .int) :: ([Cond.fieldLink RX6 20 "HotelOfBellsModel" "thrown" "I", Cond.code yX6_isFloor cX6_isFloor 2 (some .boolean), Cond.fieldLink RX6 24 "HotelOfBellsModel" "floors" "I", Cond.code yX6_isIn cX6_isIn 3 (some .boolean), Cond.methodLink RX6 27 yX6_isIn, Cond.static yX6_isIn, Cond.initialized RX6, Cond.methodLink RX6 37 yX6_isFloor, Cond.instanceMethod yX6_isFloor, Cond.selects RX6 yX6_isFloor yX6_isFloor, Cond.code yX6_fail cX6_fail 2 (some .int), Cond.methodLink RX6 45 yX6_fail, Cond.instanceMethod yX6_fail, Cond.selects RX6 yX6_fail yX6_fail] ++ (wsX60 ++ []))
theorem u_c_M_setTune_X6 : ∀ w ∈ wsX60, w ∈ v_c_M_setTune := fun _ h => List.mem_cons_of_mem _ (List.mem_append_right _ (List.mem_append_left _ h))
theorem gg_c_M_setTune_c_M_isFloor : GoodIn v_c_M_setTune v_c_M_isFloor := goodIn_r _ [2, 3, 4, 5, 6, 7, 15, 16, 17, 18, 19, 20] (by rfl) (by decide +kernel)
theorem gg_c_M_setTune_c_M_fail : GoodIn v_c_M_setTune v_c_M_fail := goodIn_r _ [11, 1, 15, 16, 17, 18, 19, 20] (by rfl) (by decide +kernel)
set_option maxHeartbeats 4000000 in
set_option maxRecDepth 100000 in
theorem c_M_setTune (l : Launch) (hl9 : l.stackTraces = false) (dC : Nat → ClassId) (dI : Nat → Nat → Nat) (tE : Nat) (h0 : Nat) (rq : Nat) (sbq : Nat) (th : Int32) (p0 : Int32) (p1 : Int32) (p2 : Int32) (sz : Nat) : Met l yX6_setTune v_c_M_setTune ({ frames := 2, cells := 0, slots := 0, locals := 43 }) (va_Pc [.ref h0, .int p0, .int p1, .int p2] (Pre0 dC dI tE sz [] [(h0, .inr (11, [.int th, .int 0, .int 0, .int 0, .ref rq, .ref sbq]))])) (va_Qi (fun (r : Int32) (_ : Unit) => r = 0) (fun _ t => Pst dC dI [] (va_A [(h0, .inr (11, [.int th, .int 0, .int 0, .int 0, .ref rq, .ref sbq]))] sz) [(h0, .inr (11, [.int 1, .int 0, .int 0, .int 0, .ref rq, .ref sbq]))] t) (va_A [(h0, .inr (11, [.int th, .int 0, .int 0, .int 0, .ref rq, .ref sbq]))] sz)) 0 0 (va_A [(h0, .inr (11, [.int th, .int 0, .int 0, .int 0, .ref rq, .ref sbq]))] sz) := by
  refine Met.ofW (cc := cX6_setTune) (maxL := 5) (ret := (some .int)) (by decide) rfl ?_
  intro p e s m args below meth c s₁ B hml hv
  obtain ⟨rfl, hsz, hP, hK, hD0, hT⟩ := hv
  have hx := B.exec
  have hb := B.bytes
  have hr := B.returns
  have hts := atoms_spec (ws := v_c_M_setTune) B.pre
  have hown : s.vm.findClass RX6 = some m.cls := findClass_of_methodNamed B.named
  have hlocks := B.notSynchronized
  subst hsz
  have hD := hD0.self (sz := s.heap.size)
  generalize hAe : va_A [(h0, .inr (11, [.int th, .int 0, .int 0, .int 0, .ref rq, .ref sbq]))] s.heap.size = A at hD hT ⊢
  have hA : ∀ q : Nat, s.heap.size ≤ q → A q := fun q h => by rw [← hAe]; exact Or.inr h
  have hS : va_S A s.heap s.heap [] := va_S.rf
  have hl := lv_entry ([.ref h0, .int p0, .int p1, .int p2]) (n := 5) (Nat.le_of_ble_eq_true rfl)
  rw [lg_entry_eq]
  generalize (lg_sl ([.ref h0, .int p0, .int p1, .int p2]) ++ List.replicate (5 - (lg_sl ([.ref h0, .int p0, .int p1, .int p2])).length) Slot.unset).toArray = ls at hl ⊢
  have hl : lv_has ls 5 [(0, .ref h0), (1, .int p0), (2, .int p1), (3, .int p2)] := hl
  refine lv_aload_n hx hb dX6_setTune_0 rfl (lv_at hl 0 rfl) ?_
  refine lv_iconst (v := 0) hx hb dX6_setTune_1 (by decide) ?_
  refine va_put (D := (dC, dI)) (ci := 11) (v := .int 0) (ty := .int) (C := RX6) (T := TX6) (N := 6) hx hb hts u_c_M_setTune_X6 tyX6 tyX6_ok nmX6 hown hK hP hD hS 0 rfl rfl 0 (by decide) (hts (.fieldLink RX6 20 "HotelOfBellsModel" "thrown" "I") (List.mem_of_getElem? (i := 1) rfl)) (fun _ h9 => h9) rfl (by decide +kernel) rfl rfl (Nat.le_of_ble_eq_true rfl) dX6_setTune_2 (fun H locs hP hD hS => ?_)
  have hP : va_P (dC, dI) vwCl [(h0, .inr (11, [.int 0, .int 0, .int 0, .int 0, .ref rq, .ref sbq]))] H := hP
  have hD : va_D A [(h0, .inr (11, [.int 0, .int 0, .int 0, .int 0, .ref rq, .ref sbq]))] := hD
  refine lv_aload_n hx hb dX6_setTune_5 rfl (lv_at hl 0 rfl) ?_
  refine lv_iload_n hx hb dX6_setTune_6 rfl (lv_at hl 1 rfl) ?_
  have hPc := hP.sub (ws' := [(h0, .inr (11, [.int 0, .int 0, .int 0, .int 0, .ref rq, .ref sbq]))]) [0] rfl
  have hDc := hD.sub (ws' := [(h0, .inr (11, [.int 0, .int 0, .int 0, .int 0, .ref rq, .ref sbq]))]) [0] (by decide) rfl
  have hKc := hK.sub (tys' := []) [] rfl
  have hFc := va_free (wc := [(h0, .inr (11, [.int 0, .int 0, .int 0, .int 0, .ref rq, .ref sbq]))]) hD hS hA [0] rfl
  refine va_calli (va_runV (As := [.int p0]) (rest := []) ⟨hx, hb, hml, hown, hts⟩ (c_M_isFloor l hl9 dC dI tE h0 rq sbq 0 p0 _ ) (cwV 1 hts (goodIn_app (goodIn_r _ [8, 9, 10, 7] (by rfl) (by decide +kernel)) gg_c_M_setTune_c_M_isFloor) rfl rfl rfl (by decide +kernel) ⟨Nat.le_of_ble_eq_true rfl, Nat.le_of_ble_eq_true rfl⟩) ⟨Pre0.blind, va_recv hKc hPc (ci := 11) (q0 := 0) rfl rfl, Pre0.give hPc hKc hDc hT hS hFc⟩ rfl rfl hl.1 rfl (lv_room (Nat.le_of_ble_eq_true rfl)) dX6_setTune_7 ⟨Nat.le_of_ble_eq_true rfl, Nat.le_of_ble_eq_true rfl⟩) hS (fun q _ h => hFc q h) hFc (fun r_1 u t H1 locs ht hvm hw hB hz1 hk1 hS => ?_)
  obtain ⟨hP1, hK1, hD1⟩ := hB
  rw [ht] at hP1
  have hK1 := va_K.moved hvm.symm hK1
  obtain ⟨hP, hD⟩ := va_join (wr := []) (w1 := [(h0, .inr (11, [.int 0, .int 0, .int 0, .int 0, .ref rq, .ref sbq]))]) hP hD [0] [] rfl rfl (by decide) (by decide) hk1 hFc hP1 hD1
  generalize H1 = H at hP hS ⊢
  have hP : va_P (dC, dI) vwCl [(h0, .inr (11, [.int 0, .int 0, .int 0, .int 0, .ref rq, .ref sbq]))] H := hP
  have hD : va_D A [(h0, .inr (11, [.int 0, .int 0, .int 0, .int 0, .ref rq, .ref sbq]))] := hD
  refine W.widen (k := 0) (n := 0) (by omega) (by omega) ?_
  obtain rfl : r_1 = 0 := hw
  refine lv_if_ne (tgt := 19) hx hb dX6_setTune_10 (by decide) (fun c_2 => absurd (by decide) c_2) (fun _ => ?_)
  refine lv_aload_n hx hb dX6_setTune_13 rfl (lv_at hl 0 rfl) ?_
  refine lv_iconst (v := 1) hx hb dX6_setTune_14 (by decide) ?_
  have hPc := hP.sub (ws' := [(h0, .inr (11, [.int 0, .int 0, .int 0, .int 0, .ref rq, .ref sbq]))]) [0] rfl
  have hDc := hD.sub (ws' := [(h0, .inr (11, [.int 0, .int 0, .int 0, .int 0, .ref rq, .ref sbq]))]) [0] (by decide) rfl
  have hKc := hK.sub (tys' := []) [] rfl
  have hFc := va_free (wc := [(h0, .inr (11, [.int 0, .int 0, .int 0, .int 0, .ref rq, .ref sbq]))]) hD hS hA [0] rfl
  refine va_calli (va_runV (As := [.int 1]) (rest := []) ⟨hx, hb, hml, hown, hts⟩ (c_M_fail l hl9 dC dI tE h0 rq sbq 0 0 0 0 1 _ ) (cwV 1 hts (goodIn_app (goodIn_r _ [12, 13, 14, 7] (by rfl) (by decide +kernel)) gg_c_M_setTune_c_M_fail) rfl rfl rfl (by decide +kernel) ⟨Nat.le_of_ble_eq_true rfl, Nat.le_of_ble_eq_true rfl⟩) ⟨Pre0.blind, va_recv hKc hPc (ci := 11) (q0 := 0) rfl rfl, Pre0.give hPc hKc hDc hT hS hFc⟩ rfl rfl hl.1 rfl (lv_room (Nat.le_of_ble_eq_true rfl)) dX6_setTune_15 ⟨Nat.le_of_ble_eq_true rfl, Nat.le_of_ble_eq_true rfl⟩) hS (fun q _ h => hFc q h) hFc (fun r_3 u t H1 locs ht hvm hw hB hz1 hk1 hS => ?_)
  obtain ⟨hP1, hK1, hD1⟩ := hB
  rw [ht] at hP1
  have hK1 := va_K.moved hvm.symm hK1
  obtain ⟨hP, hD⟩ := va_join (wr := []) (w1 := [(h0, .inr (11, [.int 1, .int 0, .int 0, .int 0, .ref rq, .ref sbq]))]) hP hD [0] [] rfl rfl (by decide) (by decide) hk1 hFc hP1 hD1
  generalize H1 = H at hP hS ⊢
  have hP : va_P (dC, dI) vwCl [(h0, .inr (11, [.int 1, .int 0, .int 0, .int 0, .ref rq, .ref sbq]))] H := hP
  have hD : va_D A [(h0, .inr (11, [.int 1, .int 0, .int 0, .int 0, .ref rq, .ref sbq]))] := hD
  refine W.widen (k := 0) (n := 0) (by omega) (by omega) ?_
  obtain rfl : r_3 = 0 := hw
  have hP9 := hP.sub (ws' := [(h0, .inr (11, [.int 1, .int 0, .int 0, .int 0, .ref rq, .ref sbq]))]) [0] rfl
  have hD9 := hD.sub (ws' := [(h0, .inr (11, [.int 1, .int 0, .int 0, .int 0, .ref rq, .ref sbq]))]) [0] (by decide) rfl
  have hK9 := hK.sub (tys' := []) [] rfl
  exact W.iret (v := 0) hx hb hr (fun t ht hW => ⟨⟨0, (), rfl, rfl, by rw [ht]; exact hP9, va_K.moved hW.alike hK9, hD9⟩, hS.F ht⟩) hS.2.2 dX6_setTune_18
def v_c_M_addLift : List Cond := .code yX6_addLift cX6_addLift 1 (some .int) :: ([Cond.fieldLink RX6 20 "HotelOfBellsModel" "thrown" "I", Cond.fieldLink RX6 31 "HotelOfBellsModel" "lifts" "I", Cond.code yX6_setLi cX6_setLi 4 none, Cond.fieldLink RX6 9 "HotelOfBellsModel" "row" "[I", Cond.methodLink RX6 56 yX6_setLi, Cond.instanceMethod yX6_setLi, Cond.selects RX6 yX6_setLi yX6_setLi, Cond.initialized RX6] ++ (wsX60 ++ []))
theorem u_c_M_addLift_X6 : ∀ w ∈ wsX60, w ∈ v_c_M_addLift := fun _ h => List.mem_cons_of_mem _ (List.mem_append_right _ (List.mem_append_left _ h))
theorem gg_c_M_addLift_c_setLi_1 : GoodIn v_c_M_addLift v_c_setLi_1 := goodIn_r _ [3, 4, 9, 10, 11, 12, 13, 14] (by rfl) (by decide +kernel)
set_option maxHeartbeats 4000000 in
set_option maxRecDepth 100000 in
theorem c_M_addLift (l : Launch) (hl9 : l.stackTraces = false) (dC : Nat → ClassId) (dI : Nat → Nat → Nat) (tE : Nat) (h0 : Nat) (rq : Nat) (sbq : Nat) (th : Int32) (ci : ClassId) (fr : Nat → Int32) (sz : Nat) : Met l yX6_addLift v_c_M_addLift ({ frames := 1, cells := 0, slots := 0, locals := 23 }) (va_Pc [.ref h0] (Pre0 dC dI tE sz [(ci, .int)] [(h0, .inr (11, [.int th, .int 0, .int 0, .int 0, .ref rq, .ref sbq])), (rq, .inl (ci, 119, .inl fr))])) (va_Qi (fun (r : Int32) (_ : Unit) => r = 0) (fun _ t => ∃ (fx0 : Nat → Int32), Pst dC dI [(ci, .int)] (va_A [(h0, .inr (11, [.int th, .int 0, .int 0, .int 0, .ref rq, .ref sbq])), (rq, .inl (ci, 119, .inl fr))] sz) [(h0, .inr (11, [.int 0, .int 0, .int 1, .int 0, .ref rq, .ref sbq])), (rq, .inl (ci, 119, .inl fx0))] t) (va_A [(h0, .inr (11, [.int th, .int 0, .int 0, .int 0, .ref rq, .ref sbq])), (rq, .inl (ci, 119, .inl fr))] sz)) 0 0 (va_A [(h0, .inr (11, [.int th, .int 0, .int 0, .int 0, .ref rq, .ref sbq])), (rq, .inl (ci, 119, .inl fr))] sz) := by
  refine Met.ofW (cc := cX6_addLift) (maxL := 1) (ret := (some .int)) (by decide) rfl ?_
  intro p e s m args below meth c s₁ B hml hv
  obtain ⟨rfl, hsz, hP, hK, hD0, hT⟩ := hv
  have hx := B.exec
  have hb := B.bytes
  have hr := B.returns
  have hts := atoms_spec (ws := v_c_M_addLift) B.pre
  have hown : s.vm.findClass RX6 = some m.cls := findClass_of_methodNamed B.named
  have hlocks := B.notSynchronized
  subst hsz
  have hD := hD0.self (sz := s.heap.size)
  generalize hAe : va_A [(h0, .inr (11, [.int th, .int 0, .int 0, .int 0, .ref rq, .ref sbq])), (rq, .inl (ci, 119, .inl fr))] s.heap.size = A at hD hT ⊢
  have hA : ∀ q : Nat, s.heap.size ≤ q → A q := fun q h => by rw [← hAe]; exact Or.inr h
  have hS : va_S A s.heap s.heap [] := va_S.rf
  have hl := lv_entry ([.ref h0]) (n := 1) (Nat.le_of_ble_eq_true rfl)
  rw [lg_entry_eq]
  generalize (lg_sl ([.ref h0]) ++ List.replicate (1 - (lg_sl ([.ref h0])).length) Slot.unset).toArray = ls at hl ⊢
  have hl : lv_has ls 1 [(0, .ref h0)] := hl
  refine lv_aload_n hx hb dX6_addLift_0 rfl (lv_at hl 0 rfl) ?_
  refine lv_iconst (v := 0) hx hb dX6_addLift_1 (by decide) ?_
  refine va_put (D := (dC, dI)) (ci := 11) (v := .int 0) (ty := .int) (C := RX6) (T := TX6) (N := 6) hx hb hts u_c_M_addLift_X6 tyX6 tyX6_ok nmX6 hown hK hP hD hS 0 rfl rfl 0 (by decide) (hts (.fieldLink RX6 20 "HotelOfBellsModel" "thrown" "I") (List.mem_of_getElem? (i := 1) rfl)) (fun _ h9 => h9) rfl (by decide +kernel) rfl rfl (Nat.le_of_ble_eq_true rfl) dX6_addLift_2 (fun H locs hP hD hS => ?_)
  have hP : va_P (dC, dI) vwCl [(h0, .inr (11, [.int 0, .int 0, .int 0, .int 0, .ref rq, .ref sbq])), (rq, .inl (ci, 119, .inl fr))] H := hP
  have hD : va_D A [(h0, .inr (11, [.int 0, .int 0, .int 0, .int 0, .ref rq, .ref sbq])), (rq, .inl (ci, 119, .inl fr))] := hD
  refine lv_aload_n hx hb dX6_addLift_5 rfl (lv_at hl 0 rfl) ?_
  refine va_get (D := (dC, dI)) (ci := 11) (v := .int 0) (C := RX6) (T := TX6) (N := 6) hx hb hts u_c_M_addLift_X6 hown hK hP 0 rfl rfl 2 (by decide) (hts (.fieldLink RX6 31 "HotelOfBellsModel" "lifts" "I") (List.mem_of_getElem? (i := 2) rfl)) (fun _ h9 => h9) rfl dX6_addLift_6 ?_
  refine lv_iconst (v := 4) hx hb dX6_addLift_9 (by decide) ?_
  refine lv_icmp_ne (tgt := 19) hx hb dX6_addLift_10 (by decide) (fun _ => ?_) (fun c_1 => absurd c_1 (by decide))
  refine lv_aload_n hx hb dX6_addLift_19 rfl (lv_at hl 0 rfl) ?_
  refine lv_aload_n hx hb dX6_addLift_20 rfl (lv_at hl 0 rfl) ?_
  refine va_get (D := (dC, dI)) (ci := 11) (v := .int 0) (C := RX6) (T := TX6) (N := 6) hx hb hts u_c_M_addLift_X6 hown hK hP 0 rfl rfl 2 (by decide) (hts (.fieldLink RX6 31 "HotelOfBellsModel" "lifts" "I") (List.mem_of_getElem? (i := 2) rfl)) (fun _ h9 => h9) rfl dX6_addLift_21 ?_
  refine lv_iconst (v := 1) hx hb dX6_addLift_24 (by decide) ?_
  refine lv_iconst (v := 1) hx hb dX6_addLift_25 (by decide) ?_
  have hPc := hP.sub (ws' := [(h0, .inr (11, [.int 0, .int 0, .int 0, .int 0, .ref rq, .ref sbq])), (rq, .inl (ci, 119, .inl fr))]) [0, 1] rfl
  have hDc := hD.sub (ws' := [(h0, .inr (11, [.int 0, .int 0, .int 0, .int 0, .ref rq, .ref sbq])), (rq, .inl (ci, 119, .inl fr))]) [0, 1] (by decide) rfl
  have hKc := hK.sub (tys' := [(ci, .int)]) [0] rfl
  have hFc := va_free (wc := [(h0, .inr (11, [.int 0, .int 0, .int 0, .int 0, .ref rq, .ref sbq])), (rq, .inl (ci, 119, .inl fr))]) hD hS hA [0, 1] rfl
  refine va_callv (va_runV (As := [.int 0, .int 1, .int 1]) (rest := []) ⟨hx, hb, hml, hown, hts⟩ (c_setLi_1 l hl9 dC dI tE h0 rq sbq 0 0 0 0 ci fr 1 _ ) (cwV 3 hts (goodIn_app (goodIn_r _ [5, 6, 7, 8] (by rfl) (by decide +kernel)) gg_c_M_addLift_c_setLi_1) rfl rfl rfl (by decide +kernel) ⟨Nat.le_of_ble_eq_true rfl, Nat.le_of_ble_eq_true rfl⟩) ⟨Pre0.blind, va_recv hKc hPc (ci := 11) (q0 := 0) rfl rfl, Pre0.give hPc hKc hDc hT hS hFc⟩ rfl rfl hl.1 rfl (lv_room (Nat.le_of_ble_eq_true rfl)) dX6_addLift_26 ⟨Nat.le_of_ble_eq_true rfl, Nat.le_of_ble_eq_true rfl⟩) hS (fun q _ h => hFc q h) hFc (fun u t H1 locs ht hvm hw hB hz1 hk1 hS => ?_)
  obtain ⟨fx_3, hP1, hK1, hD1⟩ := hB
  rw [ht] at hP1
  have hK1 := va_K.moved hvm.symm hK1
  obtain ⟨hP, hD⟩ := va_join (wr := []) (w1 := [(h0, .inr (11, [.int 0, .int 0, .int 0, .int 0, .ref rq, .ref sbq])), (rq, .inl (ci, 119, .inl fx_3))]) hP hD [0, 1] [] rfl rfl (by decide) (by decide) hk1 hFc hP1 hD1
  generalize H1 = H at hP hS ⊢
  have hP : va_P (dC, dI) vwCl [(h0, .inr (11, [.int 0, .int 0, .int 0, .int 0, .ref rq, .ref sbq])), (rq, .inl (ci, 119, .inl fx_3))] H := hP
  have hD : va_D A [(h0, .inr (11, [.int 0, .int 0, .int 0, .int 0, .ref rq, .ref sbq])), (rq, .inl (ci, 119, .inl fx_3))] := hD
  refine W.widen (k := 0) (n := 0) (by omega) (by omega) ?_
  refine lv_aload_n hx hb dX6_addLift_29 rfl (lv_at hl 0 rfl) ?_
  refine lv_dup hx hb dX6_addLift_30 rfl ?_
  refine va_get (D := (dC, dI)) (ci := 11) (v := .int 0) (C := RX6) (T := TX6) (N := 6) hx hb hts u_c_M_addLift_X6 hown hK hP 0 rfl rfl 2 (by decide) (hts (.fieldLink RX6 31 "HotelOfBellsModel" "lifts" "I") (List.mem_of_getElem? (i := 2) rfl)) (fun _ h9 => h9) rfl dX6_addLift_31 ?_
  refine lv_iconst (v := 1) hx hb dX6_addLift_34 (by decide) ?_
  refine lv_iadd hx hb dX6_addLift_35 ?_
  refine lv_topi (fun x_4 e_5 => ?_)
  obtain rfl : x_4 = 1 := e_5.trans (by decide)
  refine va_put (D := (dC, dI)) (ci := 11) (v := .int 1) (ty := .int) (C := RX6) (T := TX6) (N := 6) hx hb hts u_c_M_addLift_X6 tyX6 tyX6_ok nmX6 hown hK hP hD hS 0 rfl rfl 2 (by decide) (hts (.fieldLink RX6 31 "HotelOfBellsModel" "lifts" "I") (List.mem_of_getElem? (i := 2) rfl)) (fun _ h9 => h9) rfl (by decide +kernel) rfl rfl (Nat.le_of_ble_eq_true rfl) dX6_addLift_36 (fun H locs hP hD hS => ?_)
  have hP : va_P (dC, dI) vwCl [(h0, .inr (11, [.int 0, .int 0, .int 1, .int 0, .ref rq, .ref sbq])), (rq, .inl (ci, 119, .inl fx_3))] H := hP
  have hD : va_D A [(h0, .inr (11, [.int 0, .int 0, .int 1, .int 0, .ref rq, .ref sbq])), (rq, .inl (ci, 119, .inl fx_3))] := hD
  refine lv_aload_n hx hb dX6_addLift_39 rfl (lv_at hl 0 rfl) ?_
  refine va_get (D := (dC, dI)) (ci := 11) (v := .int 1) (C := RX6) (T := TX6) (N := 6) hx hb hts u_c_M_addLift_X6 hown hK hP 0 rfl rfl 2 (by decide) (hts (.fieldLink RX6 31 "HotelOfBellsModel" "lifts" "I") (List.mem_of_getElem? (i := 2) rfl)) (fun _ h9 => h9) rfl dX6_addLift_40 ?_
  refine lv_iconst (v := 1) hx hb dX6_addLift_43 (by decide) ?_
  refine lv_isub hx hb dX6_addLift_44 ?_
  refine lv_topi (fun x_6 e_7 => ?_)
  obtain rfl : x_6 = 0 := e_7.trans (by decide)
  have hP9 := hP.sub (ws' := [(h0, .inr (11, [.int 0, .int 0, .int 1, .int 0, .ref rq, .ref sbq])), (rq, .inl (ci, 119, .inl fx_3))]) [0, 1] rfl
  have hD9 := hD.sub (ws' := [(h0, .inr (11, [.int 0, .int 0, .int 1, .int 0, .ref rq, .ref sbq])), (rq, .inl (ci, 119, .inl fx_3))]) [0, 1] (by decide) rfl
  have hK9 := hK.sub (tys' := [(ci, .int)]) [0] rfl
  exact W.iret (v := 0) hx hb hr (fun t ht hW => ⟨⟨0, (), rfl, rfl, fx_3, by rw [ht]; exact hP9, va_K.moved hW.alike hK9, hD9⟩, hS.F ht⟩) hS.2.2 dX6_addLift_45
def v_c_M_setDoor : List Cond := .code yX6_setDoor cX6_setDoor 5 (some .int) :: ([Cond.fieldLink RX6 20 "HotelOfBellsModel" "thrown" "I", Cond.code yX6_isLift cX6_isLift 2 (some .boolean), Cond.fieldLink RX6 31 "HotelOfBellsModel" "lifts" "I", Cond.code yX6_isIn cX6_isIn 3 (some .boolean), Cond.methodLink RX6 27 yX6_isIn, Cond.static yX6_isIn, Cond.initialized RX6, Cond.methodLink RX6 62 yX6_isLift, Cond.instanceMethod yX6_isLift, Cond.selects RX6 yX6_isLift yX6_isLift, Cond.code yX6_fail cX6_fail 2 (some .int), Cond.methodLink RX6 45 yX6_fail, Cond.instanceMethod yX6_fail, Cond.selects RX6 yX6_fail yX6_fail] ++ (wsX60 ++ []))
theorem u_c_M_setDoor_X6 : ∀ w ∈ wsX60, w ∈ v_c_M_setDoor := fun _ h => List.mem_cons_of_mem _ (List.mem_append_right _ (List.mem_append_left _ h))
theorem gg_c_M_setDoor_c_M_isLift : GoodIn v_c_M_setDoor v_c_M_isLift := goodIn_r _ [2, 3, 4, 5, 6, 7, 15, 16, 17, 18, 19, 20] (by rfl) (by decide +kernel)
theorem gg_c_M_setDoor_c_M_fail : GoodIn v_c_M_setDoor v_c_M_fail := goodIn_r _ [11, 1, 15, 16, 17, 18, 19, 20] (by rfl) (by decide +kernel)
set_option maxHeartbeats 4000000 in
set_option maxRecDepth 100000 in
theorem c_M_setDoor (l : Launch) (hl9 : l.stackTraces = false) (dC : Nat → ClassId) (dI : Nat → Nat → Nat) (tE : Nat) (h0 : Nat) (rq : Nat) (sbq : Nat) (th : Int32) (p0 : Int32) (p1 : Int32) (p2 : Int32) (sz : Nat) : Met l yX6_setDoor v_c_M_setDoor ({ frames := 2, cells := 0, slots := 0, locals := 43 }) (va_Pc [.ref h0, .int p0, .int p1, .int p2] (Pre0 dC dI tE sz [] [(h0, .inr (11, [.int th, .int 0, .int 0, .int 0, .ref rq, .ref sbq]))])) (va_Qi (fun (r : Int32) (_ : Unit) => r = 0) (fun _ t => Pst dC dI [] (va_A [(h0, .inr (11, [.int th, .int 0, .int 0, .int 0, .ref rq, .ref sbq]))] sz) [(h0, .inr (11, [.int 1, .int 0, .int 0, .int 0, .ref rq, .ref sbq]))] t) (va_A [(h0, .inr (11, [.int th, .int 0, .int 0, .int 0, .ref rq, .ref sbq]))] sz)) 0 0 (va_A [(h0, .inr (11, [.int th, .int 0, .int 0, .int 0, .ref rq, .ref sbq]))] sz) := by
  refine Met.ofW (cc := cX6_setDoor) (maxL := 5) (ret := (some .int)) (by decide) rfl ?_
  intro p e s m args below meth c s₁ B hml hv
  obtain ⟨rfl, hsz, hP, hK, hD0, hT⟩ := hv
  have hx := B.exec
  have hb := B.bytes
  have hr := B.returns
  have hts := atoms_spec (ws := v_c_M_setDoor) B.pre
  have hown : s.vm.findClass RX6 = some m.cls := findClass_of_methodNamed B.named
  have hlocks := B.notSynchronized
  subst hsz
  have hD := hD0.self (sz := s.heap.size)
  generalize hAe : va_A [(h0, .inr (11, [.int th, .int 0, .int 0, .int 0, .ref rq, .ref sbq]))] s.heap.size = A at hD hT ⊢
  have hA : ∀ q : Nat, s.heap.size ≤ q → A q := fun q h => by rw [← hAe]; exact Or.inr h
  have hS : va_S A s.heap s.heap [] := va_S.rf
  have hl := lv_entry ([.ref h0, .int p0, .int p1, .int p2]) (n := 5) (Nat.le_of_ble_eq_true rfl)
  rw [lg_entry_eq]
  generalize (lg_sl ([.ref h0, .int p0, .int p1, .int p2]) ++ List.replicate (5 - (lg_sl ([.ref h0, .int p0, .int p1, .int p2])).length) Slot.unset).toArray = ls at hl ⊢
  have hl : lv_has ls 5 [(0, .ref h0), (1, .int p0), (2, .int p1), (3, .int p2)] := hl
  refine lv_aload_n hx hb dX6_setDoor_0 rfl (lv_at hl 0 rfl) ?_
  refine lv_iconst (v := 0) hx hb dX6_setDoor_1 (by decide) ?_
  refine va_put (D := (dC, dI)) (ci := 11) (v := .int 0) (ty := .int) (C := RX6) (T := TX6) (N := 6) hx hb hts u_c_M_setDoor_X6 tyX6 tyX6_ok nmX6 hown hK hP hD hS 0 rfl rfl 0 (by decide) (hts (.fieldLink RX6 20 "HotelOfBellsModel" "thrown" "I") (List.mem_of_getElem? (i := 1) rfl)) (fun _ h9 => h9) rfl (by decide +kernel) rfl rfl (Nat.le_of_ble_eq_true rfl) dX6_setDoor_2 (fun H locs hP hD hS => ?_)
  have hP : va_P (dC, dI) vwCl [(h0, .inr (11, [.int 0, .int 0, .int 0, .int 0, .ref rq, .ref sbq]))] H := hP
  have hD : va_D A [(h0, .inr (11, [.int 0, .int 0, .int 0, .int 0, .ref rq, .ref sbq]))] := hD
  refine lv_aload_n hx hb dX6_setDoor_5 rfl (lv_at hl 0 rfl) ?_
  refine lv_iload_n hx hb dX6_setDoor_6 rfl (lv_at hl 1 rfl) ?_
  have hPc := hP.sub (ws' := [(h0, .inr (11, [.int 0, .int 0, .int 0, .int 0, .ref rq, .ref sbq]))]) [0] rfl
  have hDc := hD.sub (ws' := [(h0, .inr (11, [.int 0, .int 0, .int 0, .int 0, .ref rq, .ref sbq]))]) [0] (by decide) rfl
  have hKc := hK.sub (tys' := []) [] rfl
  have hFc := va_free (wc := [(h0, .inr (11, [.int 0, .int 0, .int 0, .int 0, .ref rq, .ref sbq]))]) hD hS hA [0] rfl
  refine va_calli (va_runV (As := [.int p0]) (rest := []) ⟨hx, hb, hml, hown, hts⟩ (c_M_isLift l hl9 dC dI tE h0 rq sbq 0 p0 _ ) (cwV 1 hts (goodIn_app (goodIn_r _ [8, 9, 10, 7] (by rfl) (by decide +kernel)) gg_c_M_setDoor_c_M_isLift) rfl rfl rfl (by decide +kernel) ⟨Nat.le_of_ble_eq_true rfl, Nat.le_of_ble_eq_true rfl⟩) ⟨Pre0.blind, va_recv hKc hPc (ci := 11) (q0 := 0) rfl rfl, Pre0.give hPc hKc hDc hT hS hFc⟩ rfl rfl hl.1 rfl (lv_room (Nat.le_of_ble_eq_true rfl)) dX6_setDoor_7 ⟨Nat.le_of_ble_eq_true rfl, Nat.le_of_ble_eq_true rfl⟩) hS (fun q _ h => hFc q h) hFc (fun r_1 u t H1 locs ht hvm hw hB hz1 hk1 hS => ?_)
  obtain ⟨hP1, hK1, hD1⟩ := hB
  rw [ht] at hP1
  have hK1 := va_K.moved hvm.symm hK1
  obtain ⟨hP, hD⟩ := va_join (wr := []) (w1 := [(h0, .inr (11, [.int 0, .int 0, .int 0, .int 0, .ref rq, .ref sbq]))]) hP hD [0] [] rfl rfl (by decide) (by decide) hk1 hFc hP1 hD1
  generalize H1 = H at hP hS ⊢
  have hP : va_P (dC, dI) vwCl [(h0, .inr (11, [.int 0, .int 0, .int 0, .int 0, .ref rq, .ref sbq]))] H := hP
  have hD : va_D A [(h0, .inr (11, [.int 0, .int 0, .int 0, .int 0, .ref rq, .ref sbq]))] := hD
  refine W.widen (k := 0) (n := 0) (by omega) (by omega) ?_
  obtain rfl : r_1 = 0 := hw
  refine lv_if_eq (tgt := 21) hx hb dX6_setDoor_10 (by decide) (fun _ => ?_) (fun c_2 => absurd (by decide) c_2)
  refine lv_aload_n hx hb dX6_setDoor_21 rfl (lv_at hl 0 rfl) ?_
  refine lv_iconst (v := 1) hx hb dX6_setDoor_22 (by decide) ?_
  have hPc := hP.sub (ws' := [(h0, .inr (11, [.int 0, .int 0, .int 0, .int 0, .ref rq, .ref sbq]))]) [0] rfl
  have hDc := hD.sub (ws' := [(h0, .inr (11, [.int 0, .int 0, .int 0, .int 0, .ref rq, .ref sbq]))]) [0] (by decide) rfl
  have hKc := hK.sub (tys' := []) [] rfl
  have hFc := va_free (wc := [(h0, .inr (11, [.int 0, .int 0, .int 0, .int 0, .ref rq, .ref sbq]))]) hD hS hA [0] rfl
  refine va_calli (va_runV (As := [.int 1]) (rest := []) ⟨hx, hb, hml, hown, hts⟩ (c_M_fail l hl9 dC dI tE h0 rq sbq 0 0 0 0 1 _ ) (cwV 1 hts (goodIn_app (goodIn_r _ [12, 13, 14, 7] (by rfl) (by decide +kernel)) gg_c_M_setDoor_c_M_fail) rfl rfl rfl (by decide +kernel) ⟨Nat.le_of_ble_eq_true rfl, Nat.le_of_ble_eq_true rfl⟩) ⟨Pre0.blind, va_recv hKc hPc (ci := 11) (q0 := 0) rfl rfl, Pre0.give hPc hKc hDc hT hS hFc⟩ rfl rfl hl.1 rfl (lv_room (Nat.le_of_ble_eq_true rfl)) dX6_setDoor_23 ⟨Nat.le_of_ble_eq_true rfl, Nat.le_of_ble_eq_true rfl⟩) hS (fun q _ h => hFc q h) hFc (fun r_3 u t H1 locs ht hvm hw hB hz1 hk1 hS => ?_)
  obtain ⟨hP1, hK1, hD1⟩ := hB
  rw [ht] at hP1
  have hK1 := va_K.moved hvm.symm hK1
  obtain ⟨hP, hD⟩ := va_join (wr := []) (w1 := [(h0, .inr (11, [.int 1, .int 0, .int 0, .int 0, .ref rq, .ref sbq]))]) hP hD [0] [] rfl rfl (by decide) (by decide) hk1 hFc hP1 hD1
  generalize H1 = H at hP hS ⊢
  have hP : va_P (dC, dI) vwCl [(h0, .inr (11, [.int 1, .int 0, .int 0, .int 0, .ref rq, .ref sbq]))] H := hP
  have hD : va_D A [(h0, .inr (11, [.int 1, .int 0, .int 0, .int 0, .ref rq, .ref sbq]))] := hD
  refine W.widen (k := 0) (n := 0) (by omega) (by omega) ?_
  obtain rfl : r_3 = 0 := hw
  have hP9 := hP.sub (ws' := [(h0, .inr (11, [.int 1, .int 0, .int 0, .int 0, .ref rq, .ref sbq]))]) [0] rfl
  have hD9 := hD.sub (ws' := [(h0, .inr (11, [.int 1, .int 0, .int 0, .int 0, .ref rq, .ref sbq]))]) [0] (by decide) rfl
  have hK9 := hK.sub (tys' := []) [] rfl
  exact W.iret (v := 0) hx hb hr (fun t ht hW => ⟨⟨0, (), rfl, rfl, by rw [ht]; exact hP9, va_K.moved hW.alike hK9, hD9⟩, hS.F ht⟩) hS.2.2 dX6_setDoor_26
def v_c_M_addGuest : List Cond := .code yX6_addGuest cX6_addGuest 4 (some .int) :: ([Cond.fieldLink RX6 20 "HotelOfBellsModel" "thrown" "I", Cond.code yX6_isRoom cX6_isRoom 3 (some .boolean), Cond.code yX6_isFloor cX6_isFloor 2 (some .boolean), Cond.fieldLink RX6 24 "HotelOfBellsModel" "floors" "I", Cond.code yX6_isIn cX6_isIn 3 (some .boolean), Cond.methodLink RX6 27 yX6_isIn, Cond.static yX6_isIn, Cond.initialized RX6, Cond.methodLink RX6 37 yX6_isFloor, Cond.instanceMethod yX6_isFloor, Cond.selects RX6 yX6_isFloor yX6_isFloor, Cond.methodLink RX6 68 yX6_isRoom, Cond.instanceMethod yX6_isRoom, Cond.selects RX6 yX6_isRoom yX6_isRoom, Cond.code yX6_fail cX6_fail 2 (some .int), Cond.methodLink RX6 45 yX6_fail, Cond.instanceMethod yX6_fail, Cond.selects RX6 yX6_fail yX6_fail] ++ (wsX60 ++ []))
theorem u_c_M_addGuest_X6 : ∀ w ∈ wsX60, w ∈ v_c_M_addGuest := fun _ h => List.mem_cons_of_mem _ (List.mem_append_right _ (List.mem_append_left _ h))
theorem gg_c_M_addGuest_c_M_isRoom : GoodIn v_c_M_addGuest v_c_M_isRoom := goodIn_r _ [2, 3, 4, 5, 6, 7, 8, 9, 10, 11, 19, 20, 21, 22, 23, 24] (by rfl) (by decide +kernel)
theorem gg_c_M_addGuest_c_M_fail : GoodIn v_c_M_addGuest v_c_M_fail := goodIn_r _ [15, 1, 19, 20, 21, 22, 23, 24] (by rfl) (by decide +kernel)
set_option maxHeartbeats 4000000 in
set_option maxRecDepth 100000 in
theorem c_M_addGuest (l : Launch) (hl9 : l.stackTraces = false) (dC : Nat → ClassId) (dI : Nat → Nat → Nat) (tE : Nat) (h0 : Nat) (rq : Nat) (sbq : Nat) (th : Int32) (p0 : Int32) (p1 : Int32) (sz : Nat) : Met l yX6_addGuest v_c_M_addGuest ({ frames := 3, cells := 0, slots := 0, locals := 65 }) (va_Pc [.ref h0, .int p0, .int p1] (Pre0 dC dI tE sz [] [(h0, .inr (11, [.int th, .int 0, .int 0, .int 0, .ref rq, .ref sbq]))])) (va_Qi (fun (r : Int32) (_ : Unit) => r = 0) (fun _ t => Pst dC dI [] (va_A [(h0, .inr (11, [.int th, .int 0, .int 0, .int 0, .ref rq, .ref sbq]))] sz) [(h0, .inr (11, [.int 1, .int 0, .int 0, .int 0, .ref rq, .ref sbq]))] t) (va_A [(h0, .inr (11, [.int th, .int 0, .int 0, .int 0, .ref rq, .ref sbq]))] sz)) 0 0 (va_A [(h0, .inr (11, [.int th, .int 0, .int 0, .int 0, .ref rq, .ref sbq]))] sz) := by
  refine Met.ofW (cc := cX6_addGuest) (maxL := 4) (ret := (some .int)) (by decide) rfl ?_
  intro p e s m args below meth c s₁ B hml hv
  obtain ⟨rfl, hsz, hP, hK, hD0, hT⟩ := hv
  have hx := B.exec
  have hb := B.bytes
  have hr := B.returns
  have hts := atoms_spec (ws := v_c_M_addGuest) B.pre
  have hown : s.vm.findClass RX6 = some m.cls := findClass_of_methodNamed B.named
  have hlocks := B.notSynchronized
  subst hsz
  have hD := hD0.self (sz := s.heap.size)
  generalize hAe : va_A [(h0, .inr (11, [.int th, .int 0, .int 0, .int 0, .ref rq, .ref sbq]))] s.heap.size = A at hD hT ⊢
  have hA : ∀ q : Nat, s.heap.size ≤ q → A q := fun q h => by rw [← hAe]; exact Or.inr h
  have hS : va_S A s.heap s.heap [] := va_S.rf
  have hl := lv_entry ([.ref h0, .int p0, .int p1]) (n := 4) (Nat.le_of_ble_eq_true rfl)
  rw [lg_entry_eq]
  generalize (lg_sl ([.ref h0, .int p0, .int p1]) ++ List.replicate (4 - (lg_sl ([.ref h0, .int p0, .int p1])).length) Slot.unset).toArray = ls at hl ⊢
  have hl : lv_has ls 4 [(0, .ref h0), (1, .int p0), (2, .int p1)] := hl
  refine lv_aload_n hx hb dX6_addGuest_0 rfl (lv_at hl 0 rfl) ?_
  refine lv_iconst (v := 0) hx hb dX6_addGuest_1 (by decide) ?_
  refine va_put (D := (dC, dI)) (ci := 11) (v := .int 0) (ty := .int) (C := RX6) (T := TX6) (N := 6) hx hb hts u_c_M_addGuest_X6 tyX6 tyX6_ok nmX6 hown hK hP hD hS 0 rfl rfl 0 (by decide) (hts (.fieldLink RX6 20 "HotelOfBellsModel" "thrown" "I") (List.mem_of_getElem? (i := 1) rfl)) (fun _ h9 => h9) rfl (by decide +kernel) rfl rfl (Nat.le_of_ble_eq_true rfl) dX6_addGuest_2 (fun H locs hP hD hS => ?_)
  have hP : va_P (dC, dI) vwCl [(h0, .inr (11, [.int 0, .int 0, .int 0, .int 0, .ref rq, .ref sbq]))] H := hP
  have hD : va_D A [(h0, .inr (11, [.int 0, .int 0, .int 0, .int 0, .ref rq, .ref sbq]))] := hD
  refine lv_aload_n hx hb dX6_addGuest_5 rfl (lv_at hl 0 rfl) ?_
  refine lv_iload_n hx hb dX6_addGuest_6 rfl (lv_at hl 1 rfl) ?_
  refine lv_iload_n hx hb dX6_addGuest_7 rfl (lv_at hl 2 rfl) ?_
  have hPc := hP.sub (ws' := [(h0, .inr (11, [.int 0, .int 0, .int 0, .int 0, .ref rq, .ref sbq]))]) [0] rfl
  have hDc := hD.sub (ws' := [(h0, .inr (11, [.int 0, .int 0, .int 0, .int 0, .ref rq, .ref sbq]))]) [0] (by decide) rfl
  have hKc := hK.sub (tys' := []) [] rfl
  have hFc := va_free (wc := [(h0, .inr (11, [.int 0, .int 0, .int 0, .int 0, .ref rq, .ref sbq]))]) hD hS hA [0] rfl
  refine va_calli (va_runV (As := [.int p0, .int p1]) (rest := []) ⟨hx, hb, hml, hown, hts⟩ (c_M_isRoom l hl9 dC dI tE h0 rq sbq 0 p0 p1 _ ) (cwV 2 hts (goodIn_app (goodIn_r _ [12, 13, 14, 8] (by rfl) (by decide +kernel)) gg_c_M_addGuest_c_M_isRoom) rfl rfl rfl (by decide +kernel) ⟨Nat.le_of_ble_eq_true rfl, Nat.le_of_ble_eq_true rfl⟩) ⟨Pre0.blind, va_recv hKc hPc (ci := 11) (q0 := 0) rfl rfl, Pre0.give hPc hKc hDc hT hS hFc⟩ rfl rfl hl.1 rfl (lv_room (Nat.le_of_ble_eq_true rfl)) dX6_addGuest_8 ⟨Nat.le_of_ble_eq_true rfl, Nat.le_of_ble_eq_true rfl⟩) hS (fun q _ h => hFc q h) hFc (fun r_1 u t H1 locs ht hvm hw hB hz1 hk1 hS => ?_)
  obtain ⟨hP1, hK1, hD1⟩ := hB
  rw [ht] at hP1
  have hK1 := va_K.moved hvm.symm hK1
  obtain ⟨hP, hD⟩ := va_join (wr := []) (w1 := [(h0, .inr (11, [.int 0, .int 0, .int 0, .int 0, .ref rq, .ref sbq]))]) hP hD [0] [] rfl rfl (by decide) (by decide) hk1 hFc hP1 hD1
  generalize H1 = H at hP hS ⊢
  have hP : va_P (dC, dI) vwCl [(h0, .inr (11, [.int 0, .int 0, .int 0, .int 0, .ref rq, .ref sbq]))] H := hP
  have hD : va_D A [(h0, .inr (11, [.int 0, .int 0, .int 0, .int 0, .ref rq, .ref sbq]))] := hD
  refine W.widen (k := 0) (n := 0) (by omega) (by omega) ?_
  obtain rfl : r_1 = 0 := hw
  refine lv_if_ne (tgt := 20) hx hb dX6_addGuest_11 (by decide) (fun c_2 => absurd (by decide) c_2) (fun _ => ?_)
  refine lv_aload_n hx hb dX6_addGuest_14 rfl (lv_at hl 0 rfl) ?_
  refine lv_iconst (v := 1) hx hb dX6_addGuest_15 (by decide) ?_
  have hPc := hP.sub (ws' := [(h0, .inr (11, [.int 0, .int 0, .int 0, .int 0, .ref rq, .ref sbq]))]) [0] rfl
  have hDc := hD.sub (ws' := [(h0, .inr (11, [.int 0, .int 0, .int 0, .int 0, .ref rq, .ref sbq]))]) [0] (by decide) rfl
  have hKc := hK.sub (tys' := []) [] rfl
  have hFc := va_free (wc := [(h0, .inr (11, [.int 0, .int 0, .int 0, .int 0, .ref rq, .ref sbq]))]) hD hS hA [0] rfl
  refine va_calli (va_runV (As := [.int 1]) (rest := []) ⟨hx, hb, hml, hown, hts⟩ (c_M_fail l hl9 dC dI tE h0 rq sbq 0 0 0 0 1 _ ) (cwV 1 hts (goodIn_app (goodIn_r _ [16, 17, 18, 8] (by rfl) (by decide +kernel)) gg_c_M_addGuest_c_M_fail) rfl rfl rfl (by decide +kernel) ⟨Nat.le_of_ble_eq_true rfl, Nat.le_of_ble_eq_true rfl⟩) ⟨Pre0.blind, va_recv hKc hPc (ci := 11) (q0 := 0) rfl rfl, Pre0.give hPc hKc hDc hT hS hFc⟩ rfl rfl hl.1 rfl (lv_room (Nat.le_of_ble_eq_true rfl)) dX6_addGuest_16 ⟨Nat.le_of_ble_eq_true rfl, Nat.le_of_ble_eq_true rfl⟩) hS (fun q _ h => hFc q h) hFc (fun r_3 u t H1 locs ht hvm hw hB hz1 hk1 hS => ?_)
  obtain ⟨hP1, hK1, hD1⟩ := hB
  rw [ht] at hP1
  have hK1 := va_K.moved hvm.symm hK1
  obtain ⟨hP, hD⟩ := va_join (wr := []) (w1 := [(h0, .inr (11, [.int 1, .int 0, .int 0, .int 0, .ref rq, .ref sbq]))]) hP hD [0] [] rfl rfl (by decide) (by decide) hk1 hFc hP1 hD1
  generalize H1 = H at hP hS ⊢
  have hP : va_P (dC, dI) vwCl [(h0, .inr (11, [.int 1, .int 0, .int 0, .int 0, .ref rq, .ref sbq]))] H := hP
  have hD : va_D A [(h0, .inr (11, [.int 1, .int 0, .int 0, .int 0, .ref rq, .ref sbq]))] := hD
  refine W.widen (k := 0) (n := 0) (by omega) (by omega) ?_
  obtain rfl : r_3 = 0 := hw
  have hP9 := hP.sub (ws' := [(h0, .inr (11, [.int 1, .int 0, .int 0, .int 0, .ref rq, .ref sbq]))]) [0] rfl
  have hD9 := hD.sub (ws' := [(h0, .inr (11, [.int 1, .int 0, .int 0, .int 0, .ref rq, .ref sbq]))]) [0] (by decide) rfl
  have hK9 := hK.sub (tys' := []) [] rfl
  exact W.iret (v := 0) hx hb hr (fun t ht hW => ⟨⟨0, (), rfl, rfl, by rw [ht]; exact hP9, va_K.moved hW.alike hK9, hD9⟩, hS.F ht⟩) hS.2.2 dX6_addGuest_19
def v_c_M_want : List Cond := .code yX6_want cX6_want 4 (some .boolean) :: ([Cond.code yX6_isGuest cX6_isGuest 2 (some .boolean), Cond.fieldLink RX6 34 "HotelOfBellsModel" "guests" "I", Cond.code yX6_isIn cX6_isIn 3 (some .boolean), Cond.methodLink RX6 27 yX6_isIn, Cond.static yX6_isIn, Cond.initialized RX6, Cond.methodLink RX6 81 yX6_isGuest, Cond.instanceMethod yX6_isGuest, Cond.selects RX6 yX6_isGuest yX6_isGuest, Cond.fieldLink RX6 20 "HotelOfBellsModel" "thrown" "I"] ++ (wsX60 ++ []))
theorem u_c_M_want_X6 : ∀ w ∈ wsX60, w ∈ v_c_M_want := fun _ h => List.mem_cons_of_mem _ (List.mem_append_right _ (List.mem_append_left _ h))
theorem gg_c_M_want_c_M_isGuest : GoodIn v_c_M_want v_c_M_isGuest := goodIn_r _ [1, 2, 3, 4, 5, 6, 11, 12, 13, 14, 15, 16] (by rfl) (by decide +kernel)
set_option maxHeartbeats 4000000 in
set_option maxRecDepth 100000 in
theorem c_M_want (l : Launch) (hl9 : l.stackTraces = false) (dC : Nat → ClassId) (dI : Nat → Nat → Nat) (tE : Nat) (h0 : Nat) (rq : Nat) (sbq : Nat) (th : Int32) (p0 : Int32) (p1 : Int32) (p2 : Int32) (sz : Nat) : Met l yX6_want v_c_M_want ({ frames := 2, cells := 0, slots := 0, locals := 43 }) (va_Pc [.ref h0, .int p0, .int p1, .int p2] (Pre0 dC dI tE sz [] [(h0, .inr (11, [.int th, .int 0, .int 0, .int 0, .ref rq, .ref sbq]))])) (va_Qi (fun (r : Int32) (_ : Unit) => r = 0) (fun _ t => Pst dC dI [] (va_A [(h0, .inr (11, [.int th, .int 0, .int 0, .int 0, .ref rq, .ref sbq]))] sz) [(h0, .inr (11, [.int 1, .int 0, .int 0, .int 0, .ref rq, .ref sbq]))] t) (va_A [(h0, .inr (11, [.int th, .int 0, .int 0, .int 0, .ref rq, .ref sbq]))] sz)) 0 0 (va_A [(h0, .inr (11, [.int th, .int 0, .int 0, .int 0, .ref rq, .ref sbq]))] sz) := by
  refine Met.ofW (cc := cX6_want) (maxL := 4) (ret := (some .boolean)) (by decide) rfl ?_
  intro p e s m args below meth c s₁ B hml hv
  obtain ⟨rfl, hsz, hP, hK, hD0, hT⟩ := hv
  have hx := B.exec
  have hb := B.bytes
  have hr := B.returns
  have hts := atoms_spec (ws := v_c_M_want) B.pre
  have hown : s.vm.findClass RX6 = some m.cls := findClass_of_methodNamed B.named
  have hlocks := B.notSynchronized
  subst hsz
  have hD := hD0.self (sz := s.heap.size)
  generalize hAe : va_A [(h0, .inr (11, [.int th, .int 0, .int 0, .int 0, .ref rq, .ref sbq]))] s.heap.size = A at hD hT ⊢
  have hA : ∀ q : Nat, s.heap.size ≤ q → A q := fun q h => by rw [← hAe]; exact Or.inr h
  have hS : va_S A s.heap s.heap [] := va_S.rf
  have hl := lv_entry ([.ref h0, .int p0, .int p1, .int p2]) (n := 4) (Nat.le_of_ble_eq_true rfl)
  rw [lg_entry_eq]
  generalize (lg_sl ([.ref h0, .int p0, .int p1, .int p2]) ++ List.replicate (4 - (lg_sl ([.ref h0, .int p0, .int p1, .int p2])).length) Slot.unset).toArray = ls at hl ⊢
  have hl : lv_has ls 4 [(0, .ref h0), (1, .int p0), (2, .int p1), (3, .int p2)] := hl
  refine lv_aload_n hx hb dX6_want_0 rfl (lv_at hl 0 rfl) ?_
  refine lv_aload_n hx hb dX6_want_1 rfl (lv_at hl 0 rfl) ?_
  refine lv_iload_n hx hb dX6_want_2 rfl (lv_at hl 1 rfl) ?_
  have hPc := hP.sub (ws' := [(h0, .inr (11, [.int th, .int 0, .int 0, .int 0, .ref rq, .ref sbq]))]) [0] rfl
  have hDc := hD.sub (ws' := [(h0, .inr (11, [.int th, .int 0, .int 0, .int 0, .ref rq, .ref sbq]))]) [0] (by decide) rfl
  have hKc := hK.sub (tys' := []) [] rfl
  have hFc := va_free (wc := [(h0, .inr (11, [.int th, .int 0, .int 0, .int 0, .ref rq, .ref sbq]))]) hD hS hA [0] rfl
  refine va_calli (va_runV (As := [.int p0]) (rest := [.ref h0]) ⟨hx, hb, hml, hown, hts⟩ (c_M_isGuest l hl9 dC dI tE h0 rq sbq th p0 _ ) (cwV 1 hts (goodIn_app (goodIn_r _ [7, 8, 9, 6] (by rfl) (by decide +kernel)) gg_c_M_want_c_M_isGuest) rfl rfl rfl (by decide +kernel) ⟨Nat.le_of_ble_eq_true rfl, Nat.le_of_ble_eq_true rfl⟩) ⟨Pre0.blind, va_recv hKc hPc (ci := 11) (q0 := 0) rfl rfl, Pre0.give hPc hKc hDc hT hS hFc⟩ rfl rfl hl.1 rfl (lv_room (Nat.le_of_ble_eq_true rfl)) dX6_want_3 ⟨Nat.le_of_ble_eq_true rfl, Nat.le_of_ble_eq_true rfl⟩) hS (fun q _ h => hFc q h) hFc (fun r_1 u t H1 locs ht hvm hw hB hz1 hk1 hS => ?_)
  obtain ⟨hP1, hK1, hD1⟩ := hB
  rw [ht] at hP1
  have hK1 := va_K.moved hvm.symm hK1
  obtain ⟨hP, hD⟩ := va_join (wr := []) (w1 := [(h0, .inr (11, [.int th, .int 0, .int 0, .int 0, .ref rq, .ref sbq]))]) hP hD [0] [] rfl rfl (by decide) (by decide) hk1 hFc hP1 hD1
  generalize H1 = H at hP hS ⊢
  have hP : va_P (dC, dI) vwCl [(h0, .inr (11, [.int th, .int 0, .int 0, .int 0, .ref rq, .ref sbq]))] H := hP
  have hD : va_D A [(h0, .inr (11, [.int th, .int 0, .int 0, .int 0, .ref rq, .ref sbq]))] := hD
  refine W.widen (k := 0) (n := 0) (by omega) (by omega) ?_
  obtain rfl : r_1 = 0 := hw
  refine lv_if_eq (tgt := 22) hx hb dX6_want_6 (by decide) (fun _ => ?_) (fun c_2 => absurd (by decide) c_2)
  refine lv_iconst (v := 1) hx hb dX6_want_22 (by decide) ?_
  refine va_put (D := (dC, dI)) (ci := 11) (v := .int 1) (ty := .int) (C := RX6) (T := TX6) (N := 6) hx hb hts u_c_M_want_X6 tyX6 tyX6_ok nmX6 hown hK hP hD hS 0 rfl rfl 0 (by decide) (hts (.fieldLink RX6 20 "HotelOfBellsModel" "thrown" "I") (List.mem_of_getElem? (i := 10) rfl)) (fun _ h9 => h9) rfl (by decide +kernel) rfl rfl (Nat.le_of_ble_eq_true rfl) dX6_want_23 (fun H locs hP hD hS => ?_)
  have hP : va_P (dC, dI) vwCl [(h0, .inr (11, [.int 1, .int 0, .int 0, .int 0, .ref rq, .ref sbq]))] H := hP
  have hD : va_D A [(h0, .inr (11, [.int 1, .int 0, .int 0, .int 0, .ref rq, .ref sbq]))] := hD
  refine lv_aload_n hx hb dX6_want_26 rfl (lv_at hl 0 rfl) ?_
  refine va_get (D := (dC, dI)) (ci := 11) (v := .int 1) (C := RX6) (T := TX6) (N := 6) hx hb hts u_c_M_want_X6 hown hK hP 0 rfl rfl 0 (by decide) (hts (.fieldLink RX6 20 "HotelOfBellsModel" "thrown" "I") (List.mem_of_getElem? (i := 10) rfl)) (fun _ h9 => h9) rfl dX6_want_27 ?_
  refine lv_if_eq (tgt := 35) hx hb dX6_want_30 (by decide) (fun c_3 => absurd c_3 (by decide)) (fun _ => ?_)
  refine lv_iconst (v := 0) hx hb dX6_want_33 (by decide) ?_
  have hP9 := hP.sub (ws' := [(h0, .inr (11, [.int 1, .int 0, .int 0, .int 0, .ref rq, .ref sbq]))]) [0] rfl
  have hD9 := hD.sub (ws' := [(h0, .inr (11, [.int 1, .int 0, .int 0, .int 0, .ref rq, .ref sbq]))]) [0] (by decide) rfl
  have hK9 := hK.sub (tys' := []) [] rfl
  exact W.zret (v := 0) hx hb hr (by decide) (fun t ht hW => ⟨⟨0, (), rfl, rfl, by rw [ht]; exact hP9, va_K.moved hW.alike hK9, hD9⟩, hS.F ht⟩) hS.2.2 dX6_want_34
def v_c_M_floor : List Cond := .code yX6_floor cX6_floor 3 (some .int) :: ([Cond.fieldLink RX6 20 "HotelOfBellsModel" "thrown" "I", Cond.code yX6_isFloor cX6_isFloor 2 (some .boolean), Cond.fieldLink RX6 24 "HotelOfBellsModel" "floors" "I", Cond.code yX6_isIn cX6_isIn 3 (some .boolean), Cond.methodLink RX6 27 yX6_isIn, Cond.static yX6_isIn, Cond.initialized RX6, Cond.methodLink RX6 37 yX6_isFloor, Cond.instanceMethod yX6_isFloor, Cond.selects RX6 yX6_isFloor yX6_isFloor, Cond.code yX6_fail cX6_fail 2 (some .int), Cond.methodLink RX6 45 yX6_fail, Cond.instanceMethod yX6_fail, Cond.selects RX6 yX6_fail yX6_fail] ++ (wsX60 ++ []))
theorem u_c_M_floor_X6 : ∀ w ∈ wsX60, w ∈ v_c_M_floor := fun _ h => List.mem_cons_of_mem _ (List.mem_append_right _ (List.mem_append_left _ h))
theorem gg_c_M_floor_c_M_isFloor : GoodIn v_c_M_floor v_c_M_isFloor := goodIn_r _ [2, 3, 4, 5, 6, 7, 15, 16, 17, 18, 19, 20] (by rfl) (by decide +kernel)
theorem gg_c_M_floor_c_M_fail : GoodIn v_c_M_floor v_c_M_fail := goodIn_r _ [11, 1, 15, 16, 17, 18, 19, 20] (by rfl) (by decide +kernel)
set_option maxHeartbeats 4000000 in
set_option maxRecDepth 100000 in
theorem c_M_floor (l : Launch) (hl9 : l.stackTraces = false) (dC : Nat → ClassId) (dI : Nat → Nat → Nat) (tE : Nat) (h0 : Nat) (rq : Nat) (sbq : Nat) (th : Int32) (p0 : Int32) (p1 : Int32) (sz : Nat) : Met l yX6_floor v_c_M_floor ({ frames := 2, cells := 0, slots := 0, locals := 43 }) (va_Pc [.ref h0, .int p0, .int p1] (Pre0 dC dI tE sz [] [(h0, .inr (11, [.int th, .int 0, .int 0, .int 0, .ref rq, .ref sbq]))])) (va_Qi (fun (r : Int32) (_ : Unit) => r = 0) (fun _ t => Pst dC dI [] (va_A [(h0, .inr (11, [.int th, .int 0, .int 0, .int 0, .ref rq, .ref sbq]))] sz) [(h0, .inr (11, [.int 1, .int 0, .int 0, .int 0, .ref rq, .ref sbq]))] t) (va_A [(h0, .inr (11, [.int th, .int 0, .int 0, .int 0, .ref rq, .ref sbq]))] sz)) 0 0 (va_A [(h0, .inr (11, [.int th, .int 0, .int 0, .int 0, .ref rq, .ref sbq]))] sz) := by
  refine Met.ofW (cc := cX6_floor) (maxL := 3) (ret := (some .int)) (by decide) rfl ?_
  intro p e s m args below meth c s₁ B hml hv
  obtain ⟨rfl, hsz, hP, hK, hD0, hT⟩ := hv
  have hx := B.exec
  have hb := B.bytes
  have hr := B.returns
  have hts := atoms_spec (ws := v_c_M_floor) B.pre
  have hown : s.vm.findClass RX6 = some m.cls := findClass_of_methodNamed B.named
  have hlocks := B.notSynchronized
  subst hsz
  have hD := hD0.self (sz := s.heap.size)
  generalize hAe : va_A [(h0, .inr (11, [.int th, .int 0, .int 0, .int 0, .ref rq, .ref sbq]))] s.heap.size = A at hD hT ⊢
  have hA : ∀ q : Nat, s.heap.size ≤ q → A q := fun q h => by rw [← hAe]; exact Or.inr h
  have hS : va_S A s.heap s.heap [] := va_S.rf
  have hl := lv_entry ([.ref h0, .int p0, .int p1]) (n := 3) (Nat.le_of_ble_eq_true rfl)
  rw [lg_entry_eq]
  generalize (lg_sl ([.ref h0, .int p0, .int p1]) ++ List.replicate (3 - (lg_sl ([.ref h0, .int p0, .int p1])).length) Slot.unset).toArray = ls at hl ⊢
  have hl : lv_has ls 3 [(0, .ref h0), (1, .int p0), (2, .int p1)] := hl
  refine lv_aload_n hx hb dX6_floor_0 rfl (lv_at hl 0 rfl) ?_
  refine lv_iconst (v := 0) hx hb dX6_floor_1 (by decide) ?_
  refine va_put (D := (dC, dI)) (ci := 11) (v := .int 0) (ty := .int) (C := RX6) (T := TX6) (N := 6) hx hb hts u_c_M_floor_X6 tyX6 tyX6_ok nmX6 hown hK hP hD hS 0 rfl rfl 0 (by decide) (hts (.fieldLink RX6 20 "HotelOfBellsModel" "thrown" "I") (List.mem_of_getElem? (i := 1) rfl)) (fun _ h9 => h9) rfl (by decide +kernel) rfl rfl (Nat.le_of_ble_eq_true rfl) dX6_floor_2 (fun H locs hP hD hS => ?_)
  have hP : va_P (dC, dI) vwCl [(h0, .inr (11, [.int 0, .int 0, .int 0, .int 0, .ref rq, .ref sbq]))] H := hP
  have hD : va_D A [(h0, .inr (11, [.int 0, .int 0, .int 0, .int 0, .ref rq, .ref sbq]))] := hD
  refine lv_aload_n hx hb dX6_floor_5 rfl (lv_at hl 0 rfl) ?_
  refine lv_iload_n hx hb dX6_floor_6 rfl (lv_at hl 1 rfl) ?_
  have hPc := hP.sub (ws' := [(h0, .inr (11, [.int 0, .int 0, .int 0, .int 0, .ref rq, .ref sbq]))]) [0] rfl
  have hDc := hD.sub (ws' := [(h0, .inr (11, [.int 0, .int 0, .int 0, .int 0, .ref rq, .ref sbq]))]) [0] (by decide) rfl
  have hKc := hK.sub (tys' := []) [] rfl
  have hFc := va_free (wc := [(h0, .inr (11, [.int 0, .int 0, .int 0, .int 0, .ref rq, .ref sbq]))]) hD hS hA [0] rfl
  refine va_calli (va_runV (As := [.int p0]) (rest := []) ⟨hx, hb, hml, hown, hts⟩ (c_M_isFloor l hl9 dC dI tE h0 rq sbq 0 p0 _ ) (cwV 1 hts (goodIn_app (goodIn_r _ [8, 9, 10, 7] (by rfl) (by decide +kernel)) gg_c_M_floor_c_M_isFloor) rfl rfl rfl (by decide +kernel) ⟨Nat.le_of_ble_eq_true rfl, Nat.le_of_ble_eq_true rfl⟩) ⟨Pre0.blind, va_recv hKc hPc (ci := 11) (q0 := 0) rfl rfl, Pre0.give hPc hKc hDc hT hS hFc⟩ rfl rfl hl.1 rfl (lv_room (Nat.le_of_ble_eq_true rfl)) dX6_floor_7 ⟨Nat.le_of_ble_eq_true rfl, Nat.le_of_ble_eq_true rfl⟩) hS (fun q _ h => hFc q h) hFc (fun r_1 u t H1 locs ht hvm hw hB hz1 hk1 hS => ?_)
  obtain ⟨hP1, hK1, hD1⟩ := hB
  rw [ht] at hP1
  have hK1 := va_K.moved hvm.symm hK1
  obtain ⟨hP, hD⟩ := va_join (wr := []) (w1 := [(h0, .inr (11, [.int 0, .int 0, .int 0, .int 0, .ref rq, .ref sbq]))]) hP hD [0] [] rfl rfl (by decide) (by decide) hk1 hFc hP1 hD1
  generalize H1 = H at hP hS ⊢
  have hP : va_P (dC, dI) vwCl [(h0, .inr (11, [.int 0, .int 0, .int 0, .int 0, .ref rq, .ref sbq]))] H := hP
  have hD : va_D A [(h0, .inr (11, [.int 0, .int 0, .int 0, .int 0, .ref rq, .ref sbq]))] := hD
  refine W.widen (k := 0) (n := 0) (by omega) (by omega) ?_
  obtain rfl : r_1 = 0 := hw
  refine lv_if_eq (tgt := 31) hx hb dX6_floor_10 (by decide) (fun _ => ?_) (fun c_2 => absurd (by decide) c_2)
  refine lv_aload_n hx hb dX6_floor_31 rfl (lv_at hl 0 rfl) ?_
  refine lv_iconst (v := 1) hx hb dX6_floor_32 (by decide) ?_
  have hPc := hP.sub (ws' := [(h0, .inr (11, [.int 0, .int 0, .int 0, .int 0, .ref rq, .ref sbq]))]) [0] rfl
  have hDc := hD.sub (ws' := [(h0, .inr (11, [.int 0, .int 0, .int 0, .int 0, .ref rq, .ref sbq]))]) [0] (by decide) rfl
  have hKc := hK.sub (tys' := []) [] rfl
  have hFc := va_free (wc := [(h0, .inr (11, [.int 0, .int 0, .int 0, .int 0, .ref rq, .ref sbq]))]) hD hS hA [0] rfl
  refine va_calli (va_runV (As := [.int 1]) (rest := []) ⟨hx, hb, hml, hown, hts⟩ (c_M_fail l hl9 dC dI tE h0 rq sbq 0 0 0 0 1 _ ) (cwV 1 hts (goodIn_app (goodIn_r _ [12, 13, 14, 7] (by rfl) (by decide +kernel)) gg_c_M_floor_c_M_fail) rfl rfl rfl (by decide +kernel) ⟨Nat.le_of_ble_eq_true rfl, Nat.le_of_ble_eq_true rfl⟩) ⟨Pre0.blind, va_recv hKc hPc (ci := 11) (q0 := 0) rfl rfl, Pre0.give hPc hKc hDc hT hS hFc⟩ rfl rfl hl.1 rfl (lv_room (Nat.le_of_ble_eq_true rfl)) dX6_floor_33 ⟨Nat.le_of_ble_eq_true rfl, Nat.le_of_ble_eq_true rfl⟩) hS (fun q _ h => hFc q h) hFc (fun r_3 u t H1 locs ht hvm hw hB hz1 hk1 hS => ?_)
  obtain ⟨hP1, hK1, hD1⟩ := hB
  rw [ht] at hP1
  have hK1 := va_K.moved hvm.symm hK1
  obtain ⟨hP, hD⟩ := va_join (wr := []) (w1 := [(h0, .inr (11, [.int 1, .int 0, .int 0, .int 0, .ref rq, .ref sbq]))]) hP hD [0] [] rfl rfl (by decide) (by decide) hk1 hFc hP1 hD1
  generalize H1 = H at hP hS ⊢
  have hP : va_P (dC, dI) vwCl [(h0, .inr (11, [.int 1, .int 0, .int 0, .int 0, .ref rq, .ref sbq]))] H := hP
  have hD : va_D A [(h0, .inr (11, [.int 1, .int 0, .int 0, .int 0, .ref rq, .ref sbq]))] := hD
  refine W.widen (k := 0) (n := 0) (by omega) (by omega) ?_
  obtain rfl : r_3 = 0 := hw
  have hP9 := hP.sub (ws' := [(h0, .inr (11, [.int 1, .int 0, .int 0, .int 0, .ref rq, .ref sbq]))]) [0] rfl
  have hD9 := hD.sub (ws' := [(h0, .inr (11, [.int 1, .int 0, .int 0, .int 0, .ref rq, .ref sbq]))]) [0] (by decide) rfl
  have hK9 := hK.sub (tys' := []) [] rfl
  exact W.iret (v := 0) hx hb hr (fun t ht hW => ⟨⟨0, (), rfl, rfl, by rw [ht]; exact hP9, va_K.moved hW.alike hK9, hD9⟩, hS.F ht⟩) hS.2.2 dX6_floor_36
def v_c_M_place : List Cond := .code yX6_place cX6_place 3 (some .int) :: ([Cond.fieldLink RX6 20 "HotelOfBellsModel" "thrown" "I", Cond.code yX6_isRoom cX6_isRoom 3 (some .boolean), Cond.code yX6_isFloor cX6_isFloor 2 (some .boolean), Cond.fieldLink RX6 24 "HotelOfBellsModel" "floors" "I", Cond.code yX6_isIn cX6_isIn 3 (some .boolean), Cond.methodLink RX6 27 yX6_isIn, Cond.static yX6_isIn, Cond.initialized RX6, Cond.methodLink RX6 37 yX6_isFloor, Cond.instanceMethod yX6_isFloor, Cond.selects RX6 yX6_isFloor yX6_isFloor, Cond.methodLink RX6 68 yX6_isRoom, Cond.instanceMethod yX6_isRoom, Cond.selects RX6 yX6_isRoom yX6_isRoom, Cond.code yX6_fail cX6_fail 2 (some .int), Cond.methodLink RX6 45 yX6_fail, Cond.instanceMethod yX6_fail, Cond.selects RX6 yX6_fail yX6_fail] ++ (wsX60 ++ []))
theorem u_c_M_place_X6 : ∀ w ∈ wsX60, w ∈ v_c_M_place := fun _ h => List.mem_cons_of_mem _ (List.mem_append_right _ (List.mem_append_left _ h))
theorem gg_c_M_place_c_M_isRoom : GoodIn v_c_M_place v_c_M_isRoom := goodIn_r _ [2, 3, 4, 5, 6, 7, 8, 9, 10, 11, 19, 20, 21, 22, 23, 24] (by rfl) (by decide +kernel)
theorem gg_c_M_place_c_M_fail : GoodIn v_c_M_place v_c_M_fail := goodIn_r _ [15, 1, 19, 20, 21, 22, 23, 24] (by rfl) (by decide +kernel)
set_option maxHeartbeats 4000000 in
set_option maxRecDepth 100000 in
theorem c_M_place (l : Launch) (hl9 : l.stackTraces = false) (dC : Nat → ClassId) (dI : Nat → Nat → Nat) (tE : Nat) (h0 : Nat) (rq : Nat) (sbq : Nat) (th : Int32) (p0 : Int32) (p1 : Int32) (sz : Nat) : Met l yX6_place v_c_M_place ({ frames := 3, cells := 0, slots := 0, locals := 65 }) (va_Pc [.ref h0, .int p0, .int p1] (Pre0 dC dI tE sz [] [(h0, .inr (11, [.int th, .int 0, .int 0, .int 0, .ref rq, .ref sbq]))])) (va_Qi (fun (r : Int32) (_ : Unit) => r = 0) (fun _ t => Pst dC dI [] (va_A [(h0, .inr (11, [.int th, .int 0, .int 0, .int 0, .ref rq, .ref sbq]))] sz) [(h0, .inr (11, [.int 1, .int 0, .int 0, .int 0, .ref rq, .ref sbq]))] t) (va_A [(h0, .inr (11, [.int th, .int 0, .int 0, .int 0, .ref rq, .ref sbq]))] sz)) 0 0 (va_A [(h0, .inr (11, [.int th, .int 0, .int 0, .int 0, .ref rq, .ref sbq]))] sz) := by
  refine Met.ofW (cc := cX6_place) (maxL := 3) (ret := (some .int)) (by decide) rfl ?_
  intro p e s m args below meth c s₁ B hml hv
  obtain ⟨rfl, hsz, hP, hK, hD0, hT⟩ := hv
  have hx := B.exec
  have hb := B.bytes
  have hr := B.returns
  have hts := atoms_spec (ws := v_c_M_place) B.pre
  have hown : s.vm.findClass RX6 = some m.cls := findClass_of_methodNamed B.named
  have hlocks := B.notSynchronized
  subst hsz
  have hD := hD0.self (sz := s.heap.size)
  generalize hAe : va_A [(h0, .inr (11, [.int th, .int 0, .int 0, .int 0, .ref rq, .ref sbq]))] s.heap.size = A at hD hT ⊢
  have hA : ∀ q : Nat, s.heap.size ≤ q → A q := fun q h => by rw [← hAe]; exact Or.inr h
  have hS : va_S A s.heap s.heap [] := va_S.rf
  have hl := lv_entry ([.ref h0, .int p0, .int p1]) (n := 3) (Nat.le_of_ble_eq_true rfl)
  rw [lg_entry_eq]
  generalize (lg_sl ([.ref h0, .int p0, .int p1]) ++ List.replicate (3 - (lg_sl ([.ref h0, .int p0, .int p1])).length) Slot.unset).toArray = ls at hl ⊢
  have hl : lv_has ls 3 [(0, .ref h0), (1, .int p0), (2, .int p1)] := hl
  refine lv_aload_n hx hb dX6_place_0 rfl (lv_at hl 0 rfl) ?_
  refine lv_iconst (v := 0) hx hb dX6_place_1 (by decide) ?_
  refine va_put (D := (dC, dI)) (ci := 11) (v := .int 0) (ty := .int) (C := RX6) (T := TX6) (N := 6) hx hb hts u_c_M_place_X6 tyX6 tyX6_ok nmX6 hown hK hP hD hS 0 rfl rfl 0 (by decide) (hts (.fieldLink RX6 20 "HotelOfBellsModel" "thrown" "I") (List.mem_of_getElem? (i := 1) rfl)) (fun _ h9 => h9) rfl (by decide +kernel) rfl rfl (Nat.le_of_ble_eq_true rfl) dX6_place_2 (fun H locs hP hD hS => ?_)
  have hP : va_P (dC, dI) vwCl [(h0, .inr (11, [.int 0, .int 0, .int 0, .int 0, .ref rq, .ref sbq]))] H := hP
  have hD : va_D A [(h0, .inr (11, [.int 0, .int 0, .int 0, .int 0, .ref rq, .ref sbq]))] := hD
  refine lv_aload_n hx hb dX6_place_5 rfl (lv_at hl 0 rfl) ?_
  refine lv_iload_n hx hb dX6_place_6 rfl (lv_at hl 1 rfl) ?_
  refine lv_iload_n hx hb dX6_place_7 rfl (lv_at hl 2 rfl) ?_
  have hPc := hP.sub (ws' := [(h0, .inr (11, [.int 0, .int 0, .int 0, .int 0, .ref rq, .ref sbq]))]) [0] rfl
  have hDc := hD.sub (ws' := [(h0, .inr (11, [.int 0, .int 0, .int 0, .int 0, .ref rq, .ref sbq]))]) [0] (by decide) rfl
  have hKc := hK.sub (tys' := []) [] rfl
  have hFc := va_free (wc := [(h0, .inr (11, [.int 0, .int 0, .int 0, .int 0, .ref rq, .ref sbq]))]) hD hS hA [0] rfl
  refine va_calli (va_runV (As := [.int p0, .int p1]) (rest := []) ⟨hx, hb, hml, hown, hts⟩ (c_M_isRoom l hl9 dC dI tE h0 rq sbq 0 p0 p1 _ ) (cwV 2 hts (goodIn_app (goodIn_r _ [12, 13, 14, 8] (by rfl) (by decide +kernel)) gg_c_M_place_c_M_isRoom) rfl rfl rfl (by decide +kernel) ⟨Nat.le_of_ble_eq_true rfl, Nat.le_of_ble_eq_true rfl⟩) ⟨Pre0.blind, va_recv hKc hPc (ci := 11) (q0 := 0) rfl rfl, Pre0.give hPc hKc hDc hT hS hFc⟩ rfl rfl hl.1 rfl (lv_room (Nat.le_of_ble_eq_true rfl)) dX6_place_8 ⟨Nat.le_of_ble_eq_true rfl, Nat.le_of_ble_eq_true rfl⟩) hS (fun q _ h => hFc q h) hFc (fun r_1 u t H1 locs ht hvm hw hB hz1 hk1 hS => ?_)
  obtain ⟨hP1, hK1, hD1⟩ := hB
  rw [ht] at hP1
  have hK1 := va_K.moved hvm.symm hK1
  obtain ⟨hP, hD⟩ := va_join (wr := []) (w1 := [(h0, .inr (11, [.int 0, .int 0, .int 0, .int 0, .ref rq, .ref sbq]))]) hP hD [0] [] rfl rfl (by decide) (by decide) hk1 hFc hP1 hD1
  generalize H1 = H at hP hS ⊢
  have hP : va_P (dC, dI) vwCl [(h0, .inr (11, [.int 0, .int 0, .int 0, .int 0, .ref rq, .ref sbq]))] H := hP
  have hD : va_D A [(h0, .inr (11, [.int 0, .int 0, .int 0, .int 0, .ref rq, .ref sbq]))] := hD
  refine W.widen (k := 0) (n := 0) (by omega) (by omega) ?_
  obtain rfl : r_1 = 0 := hw
  refine lv_if_eq (tgt := 23) hx hb dX6_place_11 (by decide) (fun _ => ?_) (fun c_2 => absurd (by decide) c_2)
  refine lv_aload_n hx hb dX6_place_23 rfl (lv_at hl 0 rfl) ?_
  refine lv_iconst (v := 1) hx hb dX6_place_24 (by decide) ?_
  have hPc := hP.sub (ws' := [(h0, .inr (11, [.int 0, .int 0, .int 0, .int 0, .ref rq, .ref sbq]))]) [0] rfl
  have hDc := hD.sub (ws' := [(h0, .inr (11, [.int 0, .int 0, .int 0, .int 0, .ref rq, .ref sbq]))]) [0] (by decide) rfl
  have hKc := hK.sub (tys' := []) [] rfl
  have hFc := va_free (wc := [(h0, .inr (11, [.int 0, .int 0, .int 0, .int 0, .ref rq, .ref sbq]))]) hD hS hA [0] rfl
  refine va_calli (va_runV (As := [.int 1]) (rest := []) ⟨hx, hb, hml, hown, hts⟩ (c_M_fail l hl9 dC dI tE h0 rq sbq 0 0 0 0 1 _ ) (cwV 1 hts (goodIn_app (goodIn_r _ [16, 17, 18, 8] (by rfl) (by decide +kernel)) gg_c_M_place_c_M_fail) rfl rfl rfl (by decide +kernel) ⟨Nat.le_of_ble_eq_true rfl, Nat.le_of_ble_eq_true rfl⟩) ⟨Pre0.blind, va_recv hKc hPc (ci := 11) (q0 := 0) rfl rfl, Pre0.give hPc hKc hDc hT hS hFc⟩ rfl rfl hl.1 rfl (lv_room (Nat.le_of_ble_eq_true rfl)) dX6_place_25 ⟨Nat.le_of_ble_eq_true rfl, Nat.le_of_ble_eq_true rfl⟩) hS (fun q _ h => hFc q h) hFc (fun r_3 u t H1 locs ht hvm hw hB hz1 hk1 hS => ?_)
  obtain ⟨hP1, hK1, hD1⟩ := hB
  rw [ht] at hP1
  have hK1 := va_K.moved hvm.symm hK1
  obtain ⟨hP, hD⟩ := va_join (wr := []) (w1 := [(h0, .inr (11, [.int 1, .int 0, .int 0, .int 0, .ref rq, .ref sbq]))]) hP hD [0] [] rfl rfl (by decide) (by decide) hk1 hFc hP1 hD1
  generalize H1 = H at hP hS ⊢
  have hP : va_P (dC, dI) vwCl [(h0, .inr (11, [.int 1, .int 0, .int 0, .int 0, .ref rq, .ref sbq]))] H := hP
  have hD : va_D A [(h0, .inr (11, [.int 1, .int 0, .int 0, .int 0, .ref rq, .ref sbq]))] := hD
  refine W.widen (k := 0) (n := 0) (by omega) (by omega) ?_
  obtain rfl : r_3 = 0 := hw
  have hP9 := hP.sub (ws' := [(h0, .inr (11, [.int 1, .int 0, .int 0, .int 0, .ref rq, .ref sbq]))]) [0] rfl
  have hD9 := hD.sub (ws' := [(h0, .inr (11, [.int 1, .int 0, .int 0, .int 0, .ref rq, .ref sbq]))]) [0] (by decide) rfl
  have hK9 := hK.sub (tys' := []) [] rfl
  exact W.iret (v := 0) hx hb hr (fun t ht hW => ⟨⟨0, (), rfl, rfl, by rw [ht]; exact hP9, va_K.moved hW.alike hK9, hD9⟩, hS.F ht⟩) hS.2.2 dX6_place_28
def v_c_M_lift : List Cond := .code yX6_lift cX6_lift 3 (some .int) :: ([Cond.fieldLink RX6 20 "HotelOfBellsModel" "thrown" "I", Cond.code yX6_isLift cX6_isLift 2 (some .boolean), Cond.fieldLink RX6 31 "HotelOfBellsModel" "lifts" "I", Cond.code yX6_isIn cX6_isIn 3 (some .boolean), Cond.methodLink RX6 27 yX6_isIn, Cond.static yX6_isIn, Cond.initialized RX6, Cond.methodLink RX6 62 yX6_isLift, Cond.instanceMethod yX6_isLift, Cond.selects RX6 yX6_isLift yX6_isLift, Cond.code yX6_fail cX6_fail 2 (some .int), Cond.methodLink RX6 45 yX6_fail, Cond.instanceMethod yX6_fail, Cond.selects RX6 yX6_fail yX6_fail] ++ (wsX60 ++ []))
theorem u_c_M_lift_X6 : ∀ w ∈ wsX60, w ∈ v_c_M_lift := fun _ h => List.mem_cons_of_mem _ (List.mem_append_right _ (List.mem_append_left _ h))
theorem gg_c_M_lift_c_M_isLift : GoodIn v_c_M_lift v_c_M_isLift := goodIn_r _ [2, 3, 4, 5, 6, 7, 15, 16, 17, 18, 19, 20] (by rfl) (by decide +kernel)
theorem gg_c_M_lift_c_M_fail : GoodIn v_c_M_lift v_c_M_fail := goodIn_r _ [11, 1, 15, 16, 17, 18, 19, 20] (by rfl) (by decide +kernel)
set_option maxHeartbeats 4000000 in
set_option maxRecDepth 100000 in
theorem c_M_lift (l : Launch) (hl9 : l.stackTraces = false) (dC : Nat → ClassId) (dI : Nat → Nat → Nat) (tE : Nat) (h0 : Nat) (rq : Nat) (sbq : Nat) (th : Int32) (p0 : Int32) (p1 : Int32) (sz : Nat) : Met l yX6_lift v_c_M_lift ({ frames := 2, cells := 0, slots := 0, locals := 43 }) (va_Pc [.ref h0, .int p0, .int p1] (Pre0 dC dI tE sz [] [(h0, .inr (11, [.int th, .int 0, .int 0, .int 0, .ref rq, .ref sbq]))])) (va_Qi (fun (r : Int32) (_ : Unit) => r = 0) (fun _ t => Pst dC dI [] (va_A [(h0, .inr (11, [.int th, .int 0, .int 0, .int 0, .ref rq, .ref sbq]))] sz) [(h0, .inr (11, [.int 1, .int 0, .int 0, .int 0, .ref rq, .ref sbq]))] t) (va_A [(h0, .inr (11, [.int th, .int 0, .int 0, .int 0, .ref rq, .ref sbq]))] sz)) 0 0 (va_A [(h0, .inr (11, [.int th, .int 0, .int 0, .int 0, .ref rq, .ref sbq]))] sz) := by
  refine Met.ofW (cc := cX6_lift) (maxL := 3) (ret := (some .int)) (by decide) rfl ?_
  intro p e s m args below meth c s₁ B hml hv
  obtain ⟨rfl, hsz, hP, hK, hD0, hT⟩ := hv
  have hx := B.exec
  have hb := B.bytes
  have hr := B.returns
  have hts := atoms_spec (ws := v_c_M_lift) B.pre
  have hown : s.vm.findClass RX6 = some m.cls := findClass_of_methodNamed B.named
  have hlocks := B.notSynchronized
  subst hsz
  have hD := hD0.self (sz := s.heap.size)
  generalize hAe : va_A [(h0, .inr (11, [.int th, .int 0, .int 0, .int 0, .ref rq, .ref sbq]))] s.heap.size = A at hD hT ⊢
  have hA : ∀ q : Nat, s.heap.size ≤ q → A q := fun q h => by rw [← hAe]; exact Or.inr h
  have hS : va_S A s.heap s.heap [] := va_S.rf
  have hl := lv_entry ([.ref h0, .int p0, .int p1]) (n := 3) (Nat.le_of_ble_eq_true rfl)
  rw [lg_entry_eq]
  generalize (lg_sl ([.ref h0, .int p0, .int p1]) ++ List.replicate (3 - (lg_sl ([.ref h0, .int p0, .int p1])).length) Slot.unset).toArray = ls at hl ⊢
  have hl : lv_has ls 3 [(0, .ref h0), (1, .int p0), (2, .int p1)] := hl
  refine lv_aload_n hx hb dX6_lift_0 rfl (lv_at hl 0 rfl) ?_
  refine lv_iconst (v := 0) hx hb dX6_lift_1 (by decide) ?_
  refine va_put (D := (dC, dI)) (ci := 11) (v := .int 0) (ty := .int) (C := RX6) (T := TX6) (N := 6) hx hb hts u_c_M_lift_X6 tyX6 tyX6_ok nmX6 hown hK hP hD hS 0 rfl rfl 0 (by decide) (hts (.fieldLink RX6 20 "HotelOfBellsModel" "thrown" "I") (List.mem_of_getElem? (i := 1) rfl)) (fun _ h9 => h9) rfl (by decide +kernel) rfl rfl (Nat.le_of_ble_eq_true rfl) dX6_lift_2 (fun H locs hP hD hS => ?_)
  have hP : va_P (dC, dI) vwCl [(h0, .inr (11, [.int 0, .int 0, .int 0, .int 0, .ref rq, .ref sbq]))] H := hP
  have hD : va_D A [(h0, .inr (11, [.int 0, .int 0, .int 0, .int 0, .ref rq, .ref sbq]))] := hD
  refine lv_aload_n hx hb dX6_lift_5 rfl (lv_at hl 0 rfl) ?_
  refine lv_iload_n hx hb dX6_lift_6 rfl (lv_at hl 1 rfl) ?_
  have hPc := hP.sub (ws' := [(h0, .inr (11, [.int 0, .int 0, .int 0, .int 0, .ref rq, .ref sbq]))]) [0] rfl
  have hDc := hD.sub (ws' := [(h0, .inr (11, [.int 0, .int 0, .int 0, .int 0, .ref rq, .ref sbq]))]) [0] (by decide) rfl
  have hKc := hK.sub (tys' := []) [] rfl
  have hFc := va_free (wc := [(h0, .inr (11, [.int 0, .int 0, .int 0, .int 0, .ref rq, .ref sbq]))]) hD hS hA [0] rfl
  refine va_calli (va_runV (As := [.int p0]) (rest := []) ⟨hx, hb, hml, hown, hts⟩ (c_M_isLift l hl9 dC dI tE h0 rq sbq 0 p0 _ ) (cwV 1 hts (goodIn_app (goodIn_r _ [8, 9, 10, 7] (by rfl) (by decide +kernel)) gg_c_M_lift_c_M_isLift) rfl rfl rfl (by decide +kernel) ⟨Nat.le_of_ble_eq_true rfl, Nat.le_of_ble_eq_true rfl⟩) ⟨Pre0.blind, va_recv hKc hPc (ci := 11) (q0 := 0) rfl rfl, Pre0.give hPc hKc hDc hT hS hFc⟩ rfl rfl hl.1 rfl (lv_room (Nat.le_of_ble_eq_true rfl)) dX6_lift_7 ⟨Nat.le_of_ble_eq_true rfl, Nat.le_of_ble_eq_true rfl⟩) hS (fun q _ h => hFc q h) hFc (fun r_1 u t H1 locs ht hvm hw hB hz1 hk1 hS => ?_)
  obtain ⟨hP1, hK1, hD1⟩ := hB
  rw [ht] at hP1
  have hK1 := va_K.moved hvm.symm hK1
  obtain ⟨hP, hD⟩ := va_join (wr := []) (w1 := [(h0, .inr (11, [.int 0, .int 0, .int 0, .int 0, .ref rq, .ref sbq]))]) hP hD [0] [] rfl rfl (by decide) (by decide) hk1 hFc hP1 hD1
  generalize H1 = H at hP hS ⊢
  have hP : va_P (dC, dI) vwCl [(h0, .inr (11, [.int 0, .int 0, .int 0, .int 0, .ref rq, .ref sbq]))] H := hP
  have hD : va_D A [(h0, .inr (11, [.int 0, .int 0, .int 0, .int 0, .ref rq, .ref sbq]))] := hD
  refine W.widen (k := 0) (n := 0) (by omega) (by omega) ?_
  obtain rfl : r_1 = 0 := hw
  refine lv_if_eq (tgt := 31) hx hb dX6_lift_10 (by decide) (fun _ => ?_) (fun c_2 => absurd (by decide) c_2)
  refine lv_aload_n hx hb dX6_lift_31 rfl (lv_at hl 0 rfl) ?_
  refine lv_iconst (v := 1) hx hb dX6_lift_32 (by decide) ?_
  have hPc := hP.sub (ws' := [(h0, .inr (11, [.int 0, .int 0, .int 0, .int 0, .ref rq, .ref sbq]))]) [0] rfl
  have hDc := hD.sub (ws' := [(h0, .inr (11, [.int 0, .int 0, .int 0, .int 0, .ref rq, .ref sbq]))]) [0] (by decide) rfl
  have hKc := hK.sub (tys' := []) [] rfl
  have hFc := va_free (wc := [(h0, .inr (11, [.int 0, .int 0, .int 0, .int 0, .ref rq, .ref sbq]))]) hD hS hA [0] rfl
  refine va_calli (va_runV (As := [.int 1]) (rest := []) ⟨hx, hb, hml, hown, hts⟩ (c_M_fail l hl9 dC dI tE h0 rq sbq 0 0 0 0 1 _ ) (cwV 1 hts (goodIn_app (goodIn_r _ [12, 13, 14, 7] (by rfl) (by decide +kernel)) gg_c_M_lift_c_M_fail) rfl rfl rfl (by decide +kernel) ⟨Nat.le_of_ble_eq_true rfl, Nat.le_of_ble_eq_true rfl⟩) ⟨Pre0.blind, va_recv hKc hPc (ci := 11) (q0 := 0) rfl rfl, Pre0.give hPc hKc hDc hT hS hFc⟩ rfl rfl hl.1 rfl (lv_room (Nat.le_of_ble_eq_true rfl)) dX6_lift_33 ⟨Nat.le_of_ble_eq_true rfl, Nat.le_of_ble_eq_true rfl⟩) hS (fun q _ h => hFc q h) hFc (fun r_3 u t H1 locs ht hvm hw hB hz1 hk1 hS => ?_)
  obtain ⟨hP1, hK1, hD1⟩ := hB
  rw [ht] at hP1
  have hK1 := va_K.moved hvm.symm hK1
  obtain ⟨hP, hD⟩ := va_join (wr := []) (w1 := [(h0, .inr (11, [.int 1, .int 0, .int 0, .int 0, .ref rq, .ref sbq]))]) hP hD [0] [] rfl rfl (by decide) (by decide) hk1 hFc hP1 hD1
  generalize H1 = H at hP hS ⊢
  have hP : va_P (dC, dI) vwCl [(h0, .inr (11, [.int 1, .int 0, .int 0, .int 0, .ref rq, .ref sbq]))] H := hP
  have hD : va_D A [(h0, .inr (11, [.int 1, .int 0, .int 0, .int 0, .ref rq, .ref sbq]))] := hD
  refine W.widen (k := 0) (n := 0) (by omega) (by omega) ?_
  obtain rfl : r_3 = 0 := hw
  have hP9 := hP.sub (ws' := [(h0, .inr (11, [.int 1, .int 0, .int 0, .int 0, .ref rq, .ref sbq]))]) [0] rfl
  have hD9 := hD.sub (ws' := [(h0, .inr (11, [.int 1, .int 0, .int 0, .int 0, .ref rq, .ref sbq]))]) [0] (by decide) rfl
  have hK9 := hK.sub (tys' := []) [] rfl
  exact W.iret (v := 0) hx hb hr (fun t ht hW => ⟨⟨0, (), rfl, rfl, by rw [ht]; exact hP9, va_K.moved hW.alike hK9, hD9⟩, hS.F ht⟩) hS.2.2 dX6_lift_36
def v_c_M_guest : List Cond := .code yX6_guest cX6_guest 3 (some .int) :: ([Cond.fieldLink RX6 20 "HotelOfBellsModel" "thrown" "I", Cond.code yX6_isGuest cX6_isGuest 2 (some .boolean), Cond.fieldLink RX6 34 "HotelOfBellsModel" "guests" "I", Cond.code yX6_isIn cX6_isIn 3 (some .boolean), Cond.methodLink RX6 27 yX6_isIn, Cond.static yX6_isIn, Cond.initialized RX6, Cond.methodLink RX6 81 yX6_isGuest, Cond.instanceMethod yX6_isGuest, Cond.selects RX6 yX6_isGuest yX6_isGuest, Cond.code yX6_fail cX6_fail 2 (some .int), Cond.methodLink RX6 45 yX6_fail, Cond.instanceMethod yX6_fail, Cond.selects RX6 yX6_fail yX6_fail] ++ (wsX60 ++ []))
theorem u_c_M_guest_X6 : ∀ w ∈ wsX60, w ∈ v_c_M_guest := fun _ h => List.mem_cons_of_mem _ (List.mem_append_right _ (List.mem_append_left _ h))
theorem gg_c_M_guest_c_M_isGuest : GoodIn v_c_M_guest v_c_M_isGuest := goodIn_r _ [2, 3, 4, 5, 6, 7, 15, 16, 17, 18, 19, 20] (by rfl) (by decide +kernel)
theorem gg_c_M_guest_c_M_fail : GoodIn v_c_M_guest v_c_M_fail := goodIn_r _ [11, 1, 15, 16, 17, 18, 19, 20] (by rfl) (by decide +kernel)
set_option maxHeartbeats 4000000 in
set_option maxRecDepth 100000 in
theorem c_M_guest (l : Launch) (hl9 : l.stackTraces = false) (dC : Nat → ClassId) (dI : Nat → Nat → Nat) (tE : Nat) (h0 : Nat) (rq : Nat) (sbq : Nat) (th : Int32) (p0 : Int32) (p1 : Int32) (sz : Nat) : Met l yX6_guest v_c_M_guest ({ frames := 2, cells := 0, slots := 0, locals := 43 }) (va_Pc [.ref h0, .int p0, .int p1] (Pre0 dC dI tE sz [] [(h0, .inr (11, [.int th, .int 0, .int 0, .int 0, .ref rq, .ref sbq]))])) (va_Qi (fun (r : Int32) (_ : Unit) => r = 0) (fun _ t => Pst dC dI [] (va_A [(h0, .inr (11, [.int th, .int 0, .int 0, .int 0, .ref rq, .ref sbq]))] sz) [(h0, .inr (11, [.int 1, .int 0, .int 0, .int 0, .ref rq, .ref sbq]))] t) (va_A [(h0, .inr (11, [.int th, .int 0, .int 0, .int 0, .ref rq, .ref sbq]))] sz)) 0 0 (va_A [(h0, .inr (11, [.int th, .int 0, .int 0, .int 0, .ref rq, .ref sbq]))] sz) := by
  refine Met.ofW (cc := cX6_guest) (maxL := 3) (ret := (some .int)) (by decide) rfl ?_
  intro p e s m args below meth c s₁ B hml hv
  obtain ⟨rfl, hsz, hP, hK, hD0, hT⟩ := hv
  have hx := B.exec
  have hb := B.bytes
  have hr := B.returns
  have hts := atoms_spec (ws := v_c_M_guest) B.pre
  have hown : s.vm.findClass RX6 = some m.cls := findClass_of_methodNamed B.named
  have hlocks := B.notSynchronized
  subst hsz
  have hD := hD0.self (sz := s.heap.size)
  generalize hAe : va_A [(h0, .inr (11, [.int th, .int 0, .int 0, .int 0, .ref rq, .ref sbq]))] s.heap.size = A at hD hT ⊢
  have hA : ∀ q : Nat, s.heap.size ≤ q → A q := fun q h => by rw [← hAe]; exact Or.inr h
  have hS : va_S A s.heap s.heap [] := va_S.rf
  have hl := lv_entry ([.ref h0, .int p0, .int p1]) (n := 3) (Nat.le_of_ble_eq_true rfl)
  rw [lg_entry_eq]
  generalize (lg_sl ([.ref h0, .int p0, .int p1]) ++ List.replicate (3 - (lg_sl ([.ref h0, .int p0, .int p1])).length) Slot.unset).toArray = ls at hl ⊢
  have hl : lv_has ls 3 [(0, .ref h0), (1, .int p0), (2, .int p1)] := hl
  refine lv_aload_n hx hb dX6_guest_0 rfl (lv_at hl 0 rfl) ?_
  refine lv_iconst (v := 0) hx hb dX6_guest_1 (by decide) ?_
  refine va_put (D := (dC, dI)) (ci := 11) (v := .int 0) (ty := .int) (C := RX6) (T := TX6) (N := 6) hx hb hts u_c_M_guest_X6 tyX6 tyX6_ok nmX6 hown hK hP hD hS 0 rfl rfl 0 (by decide) (hts (.fieldLink RX6 20 "HotelOfBellsModel" "thrown" "I") (List.mem_of_getElem? (i := 1) rfl)) (fun _ h9 => h9) rfl (by decide +kernel) rfl rfl (Nat.le_of_ble_eq_true rfl) dX6_guest_2 (fun H locs hP hD hS => ?_)
  have hP : va_P (dC, dI) vwCl [(h0, .inr (11, [.int 0, .int 0, .int 0, .int 0, .ref rq, .ref sbq]))] H := hP
  have hD : va_D A [(h0, .inr (11, [.int 0, .int 0, .int 0, .int 0, .ref rq, .ref sbq]))] := hD
  refine lv_aload_n hx hb dX6_guest_5 rfl (lv_at hl 0 rfl) ?_
  refine lv_iload_n hx hb dX6_guest_6 rfl (lv_at hl 1 rfl) ?_
  have hPc := hP.sub (ws' := [(h0, .inr (11, [.int 0, .int 0, .int 0, .int 0, .ref rq, .ref sbq]))]) [0] rfl
  have hDc := hD.sub (ws' := [(h0, .inr (11, [.int 0, .int 0, .int 0, .int 0, .ref rq, .ref sbq]))]) [0] (by decide) rfl
  have hKc := hK.sub (tys' := []) [] rfl
  have hFc := va_free (wc := [(h0, .inr (11, [.int 0, .int 0, .int 0, .int 0, .ref rq, .ref sbq]))]) hD hS hA [0] rfl
  refine va_calli (va_runV (As := [.int p0]) (rest := []) ⟨hx, hb, hml, hown, hts⟩ (c_M_isGuest l hl9 dC dI tE h0 rq sbq 0 p0 _ ) (cwV 1 hts (goodIn_app (goodIn_r _ [8, 9, 10, 7] (by rfl) (by decide +kernel)) gg_c_M_guest_c_M_isGuest) rfl rfl rfl (by decide +kernel) ⟨Nat.le_of_ble_eq_true rfl, Nat.le_of_ble_eq_true rfl⟩) ⟨Pre0.blind, va_recv hKc hPc (ci := 11) (q0 := 0) rfl rfl, Pre0.give hPc hKc hDc hT hS hFc⟩ rfl rfl hl.1 rfl (lv_room (Nat.le_of_ble_eq_true rfl)) dX6_guest_7 ⟨Nat.le_of_ble_eq_true rfl, Nat.le_of_ble_eq_true rfl⟩) hS (fun q _ h => hFc q h) hFc (fun r_1 u t H1 locs ht hvm hw hB hz1 hk1 hS => ?_)
  obtain ⟨hP1, hK1, hD1⟩ := hB
  rw [ht] at hP1
  have hK1 := va_K.moved hvm.symm hK1
  obtain ⟨hP, hD⟩ := va_join (wr := []) (w1 := [(h0, .inr (11, [.int 0, .int 0, .int 0, .int 0, .ref rq, .ref sbq]))]) hP hD [0] [] rfl rfl (by decide) (by decide) hk1 hFc hP1 hD1
  generalize H1 = H at hP hS ⊢
  have hP : va_P (dC, dI) vwCl [(h0, .inr (11, [.int 0, .int 0, .int 0, .int 0, .ref rq, .ref sbq]))] H := hP
  have hD : va_D A [(h0, .inr (11, [.int 0, .int 0, .int 0, .int 0, .ref rq, .ref sbq]))] := hD
  refine W.widen (k := 0) (n := 0) (by omega) (by omega) ?_
  obtain rfl : r_1 = 0 := hw
  refine lv_if_eq (tgt := 32) hx hb dX6_guest_10 (by decide) (fun _ => ?_) (fun c_2 => absurd (by decide) c_2)
  refine lv_aload_n hx hb dX6_guest_32 rfl (lv_at hl 0 rfl) ?_
  refine lv_iconst (v := 1) hx hb dX6_guest_33 (by decide) ?_
  have hPc := hP.sub (ws' := [(h0, .inr (11, [.int 0, .int 0, .int 0, .int 0, .ref rq, .ref sbq]))]) [0] rfl
  have hDc := hD.sub (ws' := [(h0, .inr (11, [.int 0, .int 0, .int 0, .int 0, .ref rq, .ref sbq]))]) [0] (by decide) rfl
  have hKc := hK.sub (tys' := []) [] rfl
  have hFc := va_free (wc := [(h0, .inr (11, [.int 0, .int 0, .int 0, .int 0, .ref rq, .ref sbq]))]) hD hS hA [0] rfl
  refine va_calli (va_runV (As := [.int 1]) (rest := []) ⟨hx, hb, hml, hown, hts⟩ (c_M_fail l hl9 dC dI tE h0 rq sbq 0 0 0 0 1 _ ) (cwV 1 hts (goodIn_app (goodIn_r _ [12, 13, 14, 7] (by rfl) (by decide +kernel)) gg_c_M_guest_c_M_fail) rfl rfl rfl (by decide +kernel) ⟨Nat.le_of_ble_eq_true rfl, Nat.le_of_ble_eq_true rfl⟩) ⟨Pre0.blind, va_recv hKc hPc (ci := 11) (q0 := 0) rfl rfl, Pre0.give hPc hKc hDc hT hS hFc⟩ rfl rfl hl.1 rfl (lv_room (Nat.le_of_ble_eq_true rfl)) dX6_guest_34 ⟨Nat.le_of_ble_eq_true rfl, Nat.le_of_ble_eq_true rfl⟩) hS (fun q _ h => hFc q h) hFc (fun r_3 u t H1 locs ht hvm hw hB hz1 hk1 hS => ?_)
  obtain ⟨hP1, hK1, hD1⟩ := hB
  rw [ht] at hP1
  have hK1 := va_K.moved hvm.symm hK1
  obtain ⟨hP, hD⟩ := va_join (wr := []) (w1 := [(h0, .inr (11, [.int 1, .int 0, .int 0, .int 0, .ref rq, .ref sbq]))]) hP hD [0] [] rfl rfl (by decide) (by decide) hk1 hFc hP1 hD1
  generalize H1 = H at hP hS ⊢
  have hP : va_P (dC, dI) vwCl [(h0, .inr (11, [.int 1, .int 0, .int 0, .int 0, .ref rq, .ref sbq]))] H := hP
  have hD : va_D A [(h0, .inr (11, [.int 1, .int 0, .int 0, .int 0, .ref rq, .ref sbq]))] := hD
  refine W.widen (k := 0) (n := 0) (by omega) (by omega) ?_
  obtain rfl : r_3 = 0 := hw
  have hP9 := hP.sub (ws' := [(h0, .inr (11, [.int 1, .int 0, .int 0, .int 0, .ref rq, .ref sbq]))]) [0] rfl
  have hD9 := hD.sub (ws' := [(h0, .inr (11, [.int 1, .int 0, .int 0, .int 0, .ref rq, .ref sbq]))]) [0] (by decide) rfl
  have hK9 := hK.sub (tys' := []) [] rfl
  exact W.iret (v := 0) hx hb hr (fun t ht hW => ⟨⟨0, (), rfl, rfl, by rw [ht]; exact hP9, va_K.moved hW.alike hK9, hD9⟩, hS.F ht⟩) hS.2.2 dX6_guest_37
def v_c_M_foresee : List Cond := .code yX6_foresee cX6_foresee 3 (some .int) :: ([Cond.fieldLink RX6 20 "HotelOfBellsModel" "thrown" "I", Cond.code yX6_isGuest cX6_isGuest 2 (some .boolean), Cond.fieldLink RX6 34 "HotelOfBellsModel" "guests" "I", Cond.code yX6_isIn cX6_isIn 3 (some .boolean), Cond.methodLink RX6 27 yX6_isIn, Cond.static yX6_isIn, Cond.initialized RX6, Cond.methodLink RX6 81 yX6_isGuest, Cond.instanceMethod yX6_isGuest, Cond.selects RX6 yX6_isGuest yX6_isGuest, Cond.code yX6_fail cX6_fail 2 (some .int), Cond.methodLink RX6 45 yX6_fail, Cond.instanceMethod yX6_fail, Cond.selects RX6 yX6_fail yX6_fail] ++ (wsX60 ++ []))
theorem u_c_M_foresee_X6 : ∀ w ∈ wsX60, w ∈ v_c_M_foresee := fun _ h => List.mem_cons_of_mem _ (List.mem_append_right _ (List.mem_append_left _ h))
theorem gg_c_M_foresee_c_M_isGuest : GoodIn v_c_M_foresee v_c_M_isGuest := goodIn_r _ [2, 3, 4, 5, 6, 7, 15, 16, 17, 18, 19, 20] (by rfl) (by decide +kernel)
theorem gg_c_M_foresee_c_M_fail : GoodIn v_c_M_foresee v_c_M_fail := goodIn_r _ [11, 1, 15, 16, 17, 18, 19, 20] (by rfl) (by decide +kernel)
set_option maxHeartbeats 4000000 in
set_option maxRecDepth 100000 in
theorem c_M_foresee (l : Launch) (hl9 : l.stackTraces = false) (dC : Nat → ClassId) (dI : Nat → Nat → Nat) (tE : Nat) (h0 : Nat) (rq : Nat) (sbq : Nat) (th : Int32) (p0 : Int32) (p1 : Int32) (sz : Nat) : Met l yX6_foresee v_c_M_foresee ({ frames := 2, cells := 0, slots := 0, locals := 43 }) (va_Pc [.ref h0, .int p0, .int p1] (Pre0 dC dI tE sz [] [(h0, .inr (11, [.int th, .int 0, .int 0, .int 0, .ref rq, .ref sbq]))])) (va_Qi (fun (r : Int32) (_ : Unit) => r = 0) (fun _ t => Pst dC dI [] (va_A [(h0, .inr (11, [.int th, .int 0, .int 0, .int 0, .ref rq, .ref sbq]))] sz) [(h0, .inr (11, [.int 1, .int 0, .int 0, .int 0, .ref rq, .ref sbq]))] t) (va_A [(h0, .inr (11, [.int th, .int 0, .int 0, .int 0, .ref rq, .ref sbq]))] sz)) 0 0 (va_A [(h0, .inr (11, [.int th, .int 0, .int 0, .int 0, .ref rq, .ref sbq]))] sz) := by
  refine Met.ofW (cc := cX6_foresee) (maxL := 3) (ret := (some .int)) (by decide) rfl ?_
  intro p e s m args below meth c s₁ B hml hv
  obtain ⟨rfl, hsz, hP, hK, hD0, hT⟩ := hv
  have hx := B.exec
  have hb := B.bytes
  have hr := B.returns
  have hts := atoms_spec (ws := v_c_M_foresee) B.pre
  have hown : s.vm.findClass RX6 = some m.cls := findClass_of_methodNamed B.named
  have hlocks := B.notSynchronized
  subst hsz
  have hD := hD0.self (sz := s.heap.size)
  generalize hAe : va_A [(h0, .inr (11, [.int th, .int 0, .int 0, .int 0, .ref rq, .ref sbq]))] s.heap.size = A at hD hT ⊢
  have hA : ∀ q : Nat, s.heap.size ≤ q → A q := fun q h => by rw [← hAe]; exact Or.inr h
  have hS : va_S A s.heap s.heap [] := va_S.rf
  have hl := lv_entry ([.ref h0, .int p0, .int p1]) (n := 3) (Nat.le_of_ble_eq_true rfl)
  rw [lg_entry_eq]
  generalize (lg_sl ([.ref h0, .int p0, .int p1]) ++ List.replicate (3 - (lg_sl ([.ref h0, .int p0, .int p1])).length) Slot.unset).toArray = ls at hl ⊢
  have hl : lv_has ls 3 [(0, .ref h0), (1, .int p0), (2, .int p1)] := hl
  refine lv_aload_n hx hb dX6_foresee_0 rfl (lv_at hl 0 rfl) ?_
  refine lv_iconst (v := 0) hx hb dX6_foresee_1 (by decide) ?_
  refine va_put (D := (dC, dI)) (ci := 11) (v := .int 0) (ty := .int) (C := RX6) (T := TX6) (N := 6) hx hb hts u_c_M_foresee_X6 tyX6 tyX6_ok nmX6 hown hK hP hD hS 0 rfl rfl 0 (by decide) (hts (.fieldLink RX6 20 "HotelOfBellsModel" "thrown" "I") (List.mem_of_getElem? (i := 1) rfl)) (fun _ h9 => h9) rfl (by decide +kernel) rfl rfl (Nat.le_of_ble_eq_true rfl) dX6_foresee_2 (fun H locs hP hD hS => ?_)
  have hP : va_P (dC, dI) vwCl [(h0, .inr (11, [.int 0, .int 0, .int 0, .int 0, .ref rq, .ref sbq]))] H := hP
  have hD : va_D A [(h0, .inr (11, [.int 0, .int 0, .int 0, .int 0, .ref rq, .ref sbq]))] := hD
  refine lv_aload_n hx hb dX6_foresee_5 rfl (lv_at hl 0 rfl) ?_
  refine lv_iload_n hx hb dX6_foresee_6 rfl (lv_at hl 1 rfl) ?_
  have hPc := hP.sub (ws' := [(h0, .inr (11, [.int 0, .int 0, .int 0, .int 0, .ref rq, .ref sbq]))]) [0] rfl
  have hDc := hD.sub (ws' := [(h0, .inr (11, [.int 0, .int 0, .int 0, .int 0, .ref rq, .ref sbq]))]) [0] (by decide) rfl
  have hKc := hK.sub (tys' := []) [] rfl
  have hFc := va_free (wc := [(h0, .inr (11, [.int 0, .int 0, .int 0, .int 0, .ref rq, .ref sbq]))]) hD hS hA [0] rfl
  refine va_calli (va_runV (As := [.int p0]) (rest := []) ⟨hx, hb, hml, hown, hts⟩ (c_M_isGuest l hl9 dC dI tE h0 rq sbq 0 p0 _ ) (cwV 1 hts (goodIn_app (goodIn_r _ [8, 9, 10, 7] (by rfl) (by decide +kernel)) gg_c_M_foresee_c_M_isGuest) rfl rfl rfl (by decide +kernel) ⟨Nat.le_of_ble_eq_true rfl, Nat.le_of_ble_eq_true rfl⟩) ⟨Pre0.blind, va_recv hKc hPc (ci := 11) (q0 := 0) rfl rfl, Pre0.give hPc hKc hDc hT hS hFc⟩ rfl rfl hl.1 rfl (lv_room (Nat.le_of_ble_eq_true rfl)) dX6_foresee_7 ⟨Nat.le_of_ble_eq_true rfl, Nat.le_of_ble_eq_true rfl⟩) hS (fun q _ h => hFc q h) hFc (fun r_1 u t H1 locs ht hvm hw hB hz1 hk1 hS => ?_)
  obtain ⟨hP1, hK1, hD1⟩ := hB
  rw [ht] at hP1
  have hK1 := va_K.moved hvm.symm hK1
  obtain ⟨hP, hD⟩ := va_join (wr := []) (w1 := [(h0, .inr (11, [.int 0, .int 0, .int 0, .int 0, .ref rq, .ref sbq]))]) hP hD [0] [] rfl rfl (by decide) (by decide) hk1 hFc hP1 hD1
  generalize H1 = H at hP hS ⊢
  have hP : va_P (dC, dI) vwCl [(h0, .inr (11, [.int 0, .int 0, .int 0, .int 0, .ref rq, .ref sbq]))] H := hP
  have hD : va_D A [(h0, .inr (11, [.int 0, .int 0, .int 0, .int 0, .ref rq, .ref sbq]))] := hD
  refine W.widen (k := 0) (n := 0) (by omega) (by omega) ?_
  obtain rfl : r_1 = 0 := hw
  refine lv_if_ne (tgt := 19) hx hb dX6_foresee_10 (by decide) (fun c_2 => absurd (by decide) c_2) (fun _ => ?_)
  refine lv_aload_n hx hb dX6_foresee_13 rfl (lv_at hl 0 rfl) ?_
  refine lv_iconst (v := 1) hx hb dX6_foresee_14 (by decide) ?_
  have hPc := hP.sub (ws' := [(h0, .inr (11, [.int 0, .int 0, .int 0, .int 0, .ref rq, .ref sbq]))]) [0] rfl
  have hDc := hD.sub (ws' := [(h0, .inr (11, [.int 0, .int 0, .int 0, .int 0, .ref rq, .ref sbq]))]) [0] (by decide) rfl
  have hKc := hK.sub (tys' := []) [] rfl
  have hFc := va_free (wc := [(h0, .inr (11, [.int 0, .int 0, .int 0, .int 0, .ref rq, .ref sbq]))]) hD hS hA [0] rfl
  refine va_calli (va_runV (As := [.int 1]) (rest := []) ⟨hx, hb, hml, hown, hts⟩ (c_M_fail l hl9 dC dI tE h0 rq sbq 0 0 0 0 1 _ ) (cwV 1 hts (goodIn_app (goodIn_r _ [12, 13, 14, 7] (by rfl) (by decide +kernel)) gg_c_M_foresee_c_M_fail) rfl rfl rfl (by decide +kernel) ⟨Nat.le_of_ble_eq_true rfl, Nat.le_of_ble_eq_true rfl⟩) ⟨Pre0.blind, va_recv hKc hPc (ci := 11) (q0 := 0) rfl rfl, Pre0.give hPc hKc hDc hT hS hFc⟩ rfl rfl hl.1 rfl (lv_room (Nat.le_of_ble_eq_true rfl)) dX6_foresee_15 ⟨Nat.le_of_ble_eq_true rfl, Nat.le_of_ble_eq_true rfl⟩) hS (fun q _ h => hFc q h) hFc (fun r_3 u t H1 locs ht hvm hw hB hz1 hk1 hS => ?_)
  obtain ⟨hP1, hK1, hD1⟩ := hB
  rw [ht] at hP1
  have hK1 := va_K.moved hvm.symm hK1
  obtain ⟨hP, hD⟩ := va_join (wr := []) (w1 := [(h0, .inr (11, [.int 1, .int 0, .int 0, .int 0, .ref rq, .ref sbq]))]) hP hD [0] [] rfl rfl (by decide) (by decide) hk1 hFc hP1 hD1
  generalize H1 = H at hP hS ⊢
  have hP : va_P (dC, dI) vwCl [(h0, .inr (11, [.int 1, .int 0, .int 0, .int 0, .ref rq, .ref sbq]))] H := hP
  have hD : va_D A [(h0, .inr (11, [.int 1, .int 0, .int 0, .int 0, .ref rq, .ref sbq]))] := hD
  refine W.widen (k := 0) (n := 0) (by omega) (by omega) ?_
  obtain rfl : r_3 = 0 := hw
  have hP9 := hP.sub (ws' := [(h0, .inr (11, [.int 1, .int 0, .int 0, .int 0, .ref rq, .ref sbq]))]) [0] rfl
  have hD9 := hD.sub (ws' := [(h0, .inr (11, [.int 1, .int 0, .int 0, .int 0, .ref rq, .ref sbq]))]) [0] (by decide) rfl
  have hK9 := hK.sub (tys' := []) [] rfl
  exact W.iret (v := 0) hx hb hr (fun t ht hW => ⟨⟨0, (), rfl, rfl, by rw [ht]; exact hP9, va_K.moved hW.alike hK9, hD9⟩, hS.F ht⟩) hS.2.2 dX6_foresee_18
def v_c_M_advise : List Cond := .code yX6_advise cX6_advise 7 (some .int) :: ([Cond.fieldLink RX6 20 "HotelOfBellsModel" "thrown" "I", Cond.code yX6_isGuest cX6_isGuest 2 (some .boolean), Cond.fieldLink RX6 34 "HotelOfBellsModel" "guests" "I", Cond.code yX6_isIn cX6_isIn 3 (some .boolean), Cond.methodLink RX6 27 yX6_isIn, Cond.static yX6_isIn, Cond.initialized RX6, Cond.methodLink RX6 81 yX6_isGuest, Cond.instanceMethod yX6_isGuest, Cond.selects RX6 yX6_isGuest yX6_isGuest, Cond.code yX6_fail cX6_fail 2 (some .int), Cond.methodLink RX6 45 yX6_fail, Cond.instanceMethod yX6_fail, Cond.selects RX6 yX6_fail yX6_fail] ++ (wsX60 ++ []))
theorem u_c_M_advise_X6 : ∀ w ∈ wsX60, w ∈ v_c_M_advise := fun _ h => List.mem_cons_of_mem _ (List.mem_append_right _ (List.mem_append_left _ h))
theorem gg_c_M_advise_c_M_isGuest : GoodIn v_c_M_advise v_c_M_isGuest := goodIn_r _ [2, 3, 4, 5, 6, 7, 15, 16, 17, 18, 19, 20] (by rfl) (by decide +kernel)
theorem gg_c_M_advise_c_M_fail : GoodIn v_c_M_advise v_c_M_fail := goodIn_r _ [11, 1, 15, 16, 17, 18, 19, 20] (by rfl) (by decide +kernel)
set_option maxHeartbeats 4000000 in
set_option maxRecDepth 100000 in
theorem c_M_advise (l : Launch) (hl9 : l.stackTraces = false) (dC : Nat → ClassId) (dI : Nat → Nat → Nat) (tE : Nat) (h0 : Nat) (rq : Nat) (sbq : Nat) (th : Int32) (p0 : Int32) (p1 : Int32) (sz : Nat) : Met l yX6_advise v_c_M_advise ({ frames := 2, cells := 0, slots := 0, locals := 43 }) (va_Pc [.ref h0, .int p0, .int p1] (Pre0 dC dI tE sz [] [(h0, .inr (11, [.int th, .int 0, .int 0, .int 0, .ref rq, .ref sbq]))])) (va_Qi (fun (r : Int32) (_ : Unit) => r = 0) (fun _ t => Pst dC dI [] (va_A [(h0, .inr (11, [.int th, .int 0, .int 0, .int 0, .ref rq, .ref sbq]))] sz) [(h0, .inr (11, [.int 1, .int 0, .int 0, .int 0, .ref rq, .ref sbq]))] t) (va_A [(h0, .inr (11, [.int th, .int 0, .int 0, .int 0, .ref rq, .ref sbq]))] sz)) 0 0 (va_A [(h0, .inr (11, [.int th, .int 0, .int 0, .int 0, .ref rq, .ref sbq]))] sz) := by
  refine Met.ofW (cc := cX6_advise) (maxL := 7) (ret := (some .int)) (by decide) rfl ?_
  intro p e s m args below meth c s₁ B hml hv
  obtain ⟨rfl, hsz, hP, hK, hD0, hT⟩ := hv
  have hx := B.exec
  have hb := B.bytes
  have hr := B.returns
  have hts := atoms_spec (ws := v_c_M_advise) B.pre
  have hown : s.vm.findClass RX6 = some m.cls := findClass_of_methodNamed B.named
  have hlocks := B.notSynchronized
  subst hsz
  have hD := hD0.self (sz := s.heap.size)
  generalize hAe : va_A [(h0, .inr (11, [.int th, .int 0, .int 0, .int 0, .ref rq, .ref sbq]))] s.heap.size = A at hD hT ⊢
  have hA : ∀ q : Nat, s.heap.size ≤ q → A q := fun q h => by rw [← hAe]; exact Or.inr h
  have hS : va_S A s.heap s.heap [] := va_S.rf
  have hl := lv_entry ([.ref h0, .int p0, .int p1]) (n := 7) (Nat.le_of_ble_eq_true rfl)
  rw [lg_entry_eq]
  generalize (lg_sl ([.ref h0, .int p0, .int p1]) ++ List.replicate (7 - (lg_sl ([.ref h0, .int p0, .int p1])).length) Slot.unset).toArray = ls at hl ⊢
  have hl : lv_has ls 7 [(0, .ref h0), (1, .int p0), (2, .int p1)] := hl
  refine lv_aload_n hx hb dX6_advise_0 rfl (lv_at hl 0 rfl) ?_
  refine lv_iconst (v := 0) hx hb dX6_advise_1 (by decide) ?_
  refine va_put (D := (dC, dI)) (ci := 11) (v := .int 0) (ty := .int) (C := RX6) (T := TX6) (N := 6) hx hb hts u_c_M_advise_X6 tyX6 tyX6_ok nmX6 hown hK hP hD hS 0 rfl rfl 0 (by decide) (hts (.fieldLink RX6 20 "HotelOfBellsModel" "thrown" "I") (List.mem_of_getElem? (i := 1) rfl)) (fun _ h9 => h9) rfl (by decide +kernel) rfl rfl (Nat.le_of_ble_eq_true rfl) dX6_advise_2 (fun H locs hP hD hS => ?_)
  have hP : va_P (dC, dI) vwCl [(h0, .inr (11, [.int 0, .int 0, .int 0, .int 0, .ref rq, .ref sbq]))] H := hP
  have hD : va_D A [(h0, .inr (11, [.int 0, .int 0, .int 0, .int 0, .ref rq, .ref sbq]))] := hD
  refine lv_aload_n hx hb dX6_advise_5 rfl (lv_at hl 0 rfl) ?_
  refine lv_iload_n hx hb dX6_advise_6 rfl (lv_at hl 1 rfl) ?_
  have hPc := hP.sub (ws' := [(h0, .inr (11, [.int 0, .int 0, .int 0, .int 0, .ref rq, .ref sbq]))]) [0] rfl
  have hDc := hD.sub (ws' := [(h0, .inr (11, [.int 0, .int 0, .int 0, .int 0, .ref rq, .ref sbq]))]) [0] (by decide) rfl
  have hKc := hK.sub (tys' := []) [] rfl
  have hFc := va_free (wc := [(h0, .inr (11, [.int 0, .int 0, .int 0, .int 0, .ref rq, .ref sbq]))]) hD hS hA [0] rfl
  refine va_calli (va_runV (As := [.int p0]) (rest := []) ⟨hx, hb, hml, hown, hts⟩ (c_M_isGuest l hl9 dC dI tE h0 rq sbq 0 p0 _ ) (cwV 1 hts (goodIn_app (goodIn_r _ [8, 9, 10, 7] (by rfl) (by decide +kernel)) gg_c_M_advise_c_M_isGuest) rfl rfl rfl (by decide +kernel) ⟨Nat.le_of_ble_eq_true rfl, Nat.le_of_ble_eq_true rfl⟩) ⟨Pre0.blind, va_recv hKc hPc (ci := 11) (q0 := 0) rfl rfl, Pre0.give hPc hKc hDc hT hS hFc⟩ rfl rfl hl.1 rfl (lv_room (Nat.le_of_ble_eq_true rfl)) dX6_advise_7 ⟨Nat.le_of_ble_eq_true rfl, Nat.le_of_ble_eq_true rfl⟩) hS (fun q _ h => hFc q h) hFc (fun r_1 u t H1 locs ht hvm hw hB hz1 hk1 hS => ?_)
  obtain ⟨hP1, hK1, hD1⟩ := hB
  rw [ht] at hP1
  have hK1 := va_K.moved hvm.symm hK1
  obtain ⟨hP, hD⟩ := va_join (wr := []) (w1 := [(h0, .inr (11, [.int 0, .int 0, .int 0, .int 0, .ref rq, .ref sbq]))]) hP hD [0] [] rfl rfl (by decide) (by decide) hk1 hFc hP1 hD1
  generalize H1 = H at hP hS ⊢
  have hP : va_P (dC, dI) vwCl [(h0, .inr (11, [.int 0, .int 0, .int 0, .int 0, .ref rq, .ref sbq]))] H := hP
  have hD : va_D A [(h0, .inr (11, [.int 0, .int 0, .int 0, .int 0, .ref rq, .ref sbq]))] := hD
  refine W.widen (k := 0) (n := 0) (by omega) (by omega) ?_
  obtain rfl : r_1 = 0 := hw
  refine lv_if_ne (tgt := 19) hx hb dX6_advise_10 (by decide) (fun c_2 => absurd (by decide) c_2) (fun _ => ?_)
  refine lv_aload_n hx hb dX6_advise_13 rfl (lv_at hl 0 rfl) ?_
  refine lv_iconst (v := 1) hx hb dX6_advise_14 (by decide) ?_
  have hPc := hP.sub (ws' := [(h0, .inr (11, [.int 0, .int 0, .int 0, .int 0, .ref rq, .ref sbq]))]) [0] rfl
  have hDc := hD.sub (ws' := [(h0, .inr (11, [.int 0, .int 0, .int 0, .int 0, .ref rq, .ref sbq]))]) [0] (by decide) rfl
  have hKc := hK.sub (tys' := []) [] rfl
  have hFc := va_free (wc := [(h0, .inr (11, [.int 0, .int 0, .int 0, .int 0, .ref rq, .ref sbq]))]) hD hS hA [0] rfl
  refine va_calli (va_runV (As := [.int 1]) (rest := []) ⟨hx, hb, hml, hown, hts⟩ (c_M_fail l hl9 dC dI tE h0 rq sbq 0 0 0 0 1 _ ) (cwV 1 hts (goodIn_app (goodIn_r _ [12, 13, 14, 7] (by rfl) (by decide +kernel)) gg_c_M_advise_c_M_fail) rfl rfl rfl (by decide +kernel) ⟨Nat.le_of_ble_eq_true rfl, Nat.le_of_ble_eq_true rfl⟩) ⟨Pre0.blind, va_recv hKc hPc (ci := 11) (q0 := 0) rfl rfl, Pre0.give hPc hKc hDc hT hS hFc⟩ rfl rfl hl.1 rfl (lv_room (Nat.le_of_ble_eq_true rfl)) dX6_advise_15 ⟨Nat.le_of_ble_eq_true rfl, Nat.le_of_ble_eq_true rfl⟩) hS (fun q _ h => hFc q h) hFc (fun r_3 u t H1 locs ht hvm hw hB hz1 hk1 hS => ?_)
  obtain ⟨hP1, hK1, hD1⟩ := hB
  rw [ht] at hP1
  have hK1 := va_K.moved hvm.symm hK1
  obtain ⟨hP, hD⟩ := va_join (wr := []) (w1 := [(h0, .inr (11, [.int 1, .int 0, .int 0, .int 0, .ref rq, .ref sbq]))]) hP hD [0] [] rfl rfl (by decide) (by decide) hk1 hFc hP1 hD1
  generalize H1 = H at hP hS ⊢
  have hP : va_P (dC, dI) vwCl [(h0, .inr (11, [.int 1, .int 0, .int 0, .int 0, .ref rq, .ref sbq]))] H := hP
  have hD : va_D A [(h0, .inr (11, [.int 1, .int 0, .int 0, .int 0, .ref rq, .ref sbq]))] := hD
  refine W.widen (k := 0) (n := 0) (by omega) (by omega) ?_
  obtain rfl : r_3 = 0 := hw
  have hP9 := hP.sub (ws' := [(h0, .inr (11, [.int 1, .int 0, .int 0, .int 0, .ref rq, .ref sbq]))]) [0] rfl
  have hD9 := hD.sub (ws' := [(h0, .inr (11, [.int 1, .int 0, .int 0, .int 0, .ref rq, .ref sbq]))]) [0] (by decide) rfl
  have hK9 := hK.sub (tys' := []) [] rfl
  exact W.iret (v := 0) hx hb hr (fun t ht hW => ⟨⟨0, (), rfl, rfl, by rw [ht]; exact hP9, va_K.moved hW.alike hK9, hD9⟩, hS.F ht⟩) hS.2.2 dX6_advise_18
def v_c_counted_0 : List Cond := .code yX6_counted cX6_counted 5 (some .int) :: ([Cond.fieldLink RX6 34 "HotelOfBellsModel" "guests" "I", Cond.fieldLink RX6 24 "HotelOfBellsModel" "floors" "I"] ++ (wsX60 ++ []))
theorem u_c_counted_0_X6 : ∀ w ∈ wsX60, w ∈ v_c_counted_0 := fun _ h => List.mem_cons_of_mem _ (List.mem_append_right _ (List.mem_append_left _ h))
set_option maxHeartbeats 4000000 in
set_option maxRecDepth 100000 in
theorem c_counted_0 (l : Launch) (hl9 : l.stackTraces = false) (dC : Nat → ClassId) (dI : Nat → Nat → Nat) (tE : Nat) (h0 : Nat) (rq : Nat) (sbq : Nat) (th : Int32) (sz : Nat) : Met l yX6_counted v_c_counted_0 ({ frames := 0, cells := 0, slots := 0, locals := 0 }) (va_Pc [.ref h0, .int 0] (Pre0 dC dI tE sz [] [(h0, .inr (11, [.int th, .int 0, .int 0, .int 0, .ref rq, .ref sbq]))])) (va_Qi (fun (r : Int32) (_ : Unit) => r = 0) (fun _ t => Pst dC dI [] (va_A [(h0, .inr (11, [.int th, .int 0, .int 0, .int 0, .ref rq, .ref sbq]))] sz) [(h0, .inr (11, [.int th, .int 0, .int 0, .int 0, .ref rq, .ref sbq]))] t) (va_A [(h0, .inr (11, [.int th, .int 0, .int 0, .int 0, .ref rq, .ref sbq]))] sz)) 0 0 (va_A [(h0, .inr (11, [.int th, .int 0, .int 0, .int 0, .ref rq, .ref sbq]))] sz) := by
  refine Met.ofW (cc := cX6_counted) (maxL := 5) (ret := (some .int)) (by decide) rfl ?_
  intro p e s m args below meth c s₁ B hml hv
  obtain ⟨rfl, hsz, hP, hK, hD0, hT⟩ := hv
  have hx := B.exec
  have hb := B.bytes
  have hr := B.returns
  have hts := atoms_spec (ws := v_c_counted_0) B.pre
  have hown : s.vm.findClass RX6 = some m.cls := findClass_of_methodNamed B.named
  have hlocks := B.notSynchronized
  subst hsz
  have hD := hD0.self (sz := s.heap.size)
  generalize hAe : va_A [(h0, .inr (11, [.int th, .int 0, .int 0, .int 0, .ref rq, .ref sbq]))] s.heap.size = A at hD hT ⊢
  have hA : ∀ q : Nat, s.heap.size ≤ q → A q := fun q h => by rw [← hAe]; exact Or.inr h
  have hS : va_S A s.heap s.heap [] := va_S.rf
  have hl := lv_entry ([.ref h0, .int 0]) (n := 5) (Nat.le_of_ble_eq_true rfl)
  rw [lg_entry_eq]
  generalize (lg_sl ([.ref h0, .int 0]) ++ List.replicate (5 - (lg_sl ([.ref h0, .int 0])).length) Slot.unset).toArray = ls at hl ⊢
  have hl : lv_has ls 5 [(0, .ref h0), (1, .int 0)] := hl
  refine lv_iconst (v := 0) hx hb dX6_counted_0 (by decide) ?_
  refine lv_istore_n (lv' := [(2, .int 0), (0, .ref h0), (1, .int 0)]) hx hb dX6_counted_1 rfl hl (by decide) rfl (fun ls hl => ?_)
  refine lv_iconst (v := 0) hx hb dX6_counted_2 (by decide) ?_
  refine lv_istore_n (lv' := [(3, .int 0), (2, .int 0), (0, .ref h0), (1, .int 0)]) hx hb dX6_counted_3 rfl hl (by decide) rfl (fun ls hl => ?_)
  refine lv_iconst (v := 0) hx hb dX6_counted_4 (by decide) ?_
  refine lv_istore (lv' := [(4, .int 0), (3, .int 0), (2, .int 0), (0, .ref h0), (1, .int 0)]) hx hb dX6_counted_5 hl (by decide) rfl (fun ls hl => ?_)
  refine lv_iload hx hb dX6_counted_7 (lv_at hl 0 rfl) ?_
  refine lv_aload_n hx hb dX6_counted_9 rfl (lv_at hl 3 rfl) ?_
  refine va_get (D := (dC, dI)) (ci := 11) (v := .int 0) (C := RX6) (T := TX6) (N := 6) hx hb hts u_c_counted_0_X6 hown hK hP 0 rfl rfl 3 (by decide) (hts (.fieldLink RX6 34 "HotelOfBellsModel" "guests" "I") (List.mem_of_getElem? (i := 1) rfl)) (fun _ h9 => h9) rfl dX6_counted_10 ?_
  refine lv_icmp_ge (tgt := 58) hx hb dX6_counted_13 (by decide) (fun _ => ?_) (fun c_1 => absurd (by decide) c_1)
  refine lv_iload_n hx hb dX6_counted_58 rfl (lv_at hl 4 rfl) ?_
  refine lv_tableIn (off := 41) (tgt := 100) hx hb dX6_counted_59 (by decide) (by decide) rfl (by decide) ?_
  refine lv_aload_n hx hb dX6_counted_100 rfl (lv_at hl 3 rfl) ?_
  refine va_get (D := (dC, dI)) (ci := 11) (v := .int 0) (C := RX6) (T := TX6) (N := 6) hx hb hts u_c_counted_0_X6 hown hK hP 0 rfl rfl 1 (by decide) (hts (.fieldLink RX6 24 "HotelOfBellsModel" "floors" "I") (List.mem_of_getElem? (i := 2) rfl)) (fun _ h9 => h9) rfl dX6_counted_101 ?_
  have hP9 := hP.sub (ws' := [(h0, .inr (11, [.int th, .int 0, .int 0, .int 0, .ref rq, .ref sbq]))]) [0] rfl
  have hD9 := hD.sub (ws' := [(h0, .inr (11, [.int th, .int 0, .int 0, .int 0, .ref rq, .ref sbq]))]) [0] (by decide) rfl
  have hK9 := hK.sub (tys' := []) [] rfl
  exact W.iret (v := 0) hx hb hr (fun t ht hW => ⟨⟨0, (), rfl, rfl, by rw [ht]; exact hP9, va_K.moved hW.alike hK9, hD9⟩, hS.F ht⟩) hS.2.2 dX6_counted_104
def v_c_counted_1 : List Cond := .code yX6_counted cX6_counted 5 (some .int) :: ([Cond.fieldLink RX6 34 "HotelOfBellsModel" "guests" "I", Cond.fieldLink RX6 31 "HotelOfBellsModel" "lifts" "I"] ++ (wsX60 ++ []))
theorem u_c_counted_1_X6 : ∀ w ∈ wsX60, w ∈ v_c_counted_1 := fun _ h => List.mem_cons_of_mem _ (List.mem_append_right _ (List.mem_append_left _ h))
set_option maxHeartbeats 4000000 in
set_option maxRecDepth 100000 in
theorem c_counted_1 (l : Launch) (hl9 : l.stackTraces = false) (dC : Nat → ClassId) (dI : Nat → Nat → Nat) (tE : Nat) (h0 : Nat) (rq : Nat) (sbq : Nat) (th : Int32) (sz : Nat) : Met l yX6_counted v_c_counted_1 ({ frames := 0, cells := 0, slots := 0, locals := 0 }) (va_Pc [.ref h0, .int 1] (Pre0 dC dI tE sz [] [(h0, .inr (11, [.int th, .int 0, .int 0, .int 0, .ref rq, .ref sbq]))])) (va_Qi (fun (r : Int32) (_ : Unit) => r = 0) (fun _ t => Pst dC dI [] (va_A [(h0, .inr (11, [.int th, .int 0, .int 0, .int 0, .ref rq, .ref sbq]))] sz) [(h0, .inr (11, [.int th, .int 0, .int 0, .int 0, .ref rq, .ref sbq]))] t) (va_A [(h0, .inr (11, [.int th, .int 0, .int 0, .int 0, .ref rq, .ref sbq]))] sz)) 0 0 (va_A [(h0, .inr (11, [.int th, .int 0, .int 0, .int 0, .ref rq, .ref sbq]))] sz) := by
  refine Met.ofW (cc := cX6_counted) (maxL := 5) (ret := (some .int)) (by decide) rfl ?_
  intro p e s m args below meth c s₁ B hml hv
  obtain ⟨rfl, hsz, hP, hK, hD0, hT⟩ := hv
  have hx := B.exec
  have hb := B.bytes
  have hr := B.returns
  have hts := atoms_spec (ws := v_c_counted_1) B.pre
  have hown : s.vm.findClass RX6 = some m.cls := findClass_of_methodNamed B.named
  have hlocks := B.notSynchronized
  subst hsz
  have hD := hD0.self (sz := s.heap.size)
  generalize hAe : va_A [(h0, .inr (11, [.int th, .int 0, .int 0, .int 0, .ref rq, .ref sbq]))] s.heap.size = A at hD hT ⊢
  have hA : ∀ q : Nat, s.heap.size ≤ q → A q := fun q h => by rw [← hAe]; exact Or.inr h
  have hS : va_S A s.heap s.heap [] := va_S.rf
  have hl := lv_entry ([.ref h0, .int 1]) (n := 5) (Nat.le_of_ble_eq_true rfl)
  rw [lg_entry_eq]
  generalize (lg_sl ([.ref h0, .int 1]) ++ List.replicate (5 - (lg_sl ([.ref h0, .int 1])).length) Slot.unset).toArray = ls at hl ⊢
  have hl : lv_has ls 5 [(0, .ref h0), (1, .int 1)] := hl
  refine lv_iconst (v := 0) hx hb dX6_counted_0 (by decide) ?_
  refine lv_istore_n (lv' := [(2, .int 0), (0, .ref h0), (1, .int 1)]) hx hb dX6_counted_1 rfl hl (by decide) rfl (fun ls hl => ?_)
  refine lv_iconst (v := 0) hx hb dX6_counted_2 (by decide) ?_
  refine lv_istore_n (lv' := [(3, .int 0), (2, .int 0), (0, .ref h0), (1, .int 1)]) hx hb dX6_counted_3 rfl hl (by decide) rfl (fun ls hl => ?_)
  refine lv_iconst (v := 0) hx hb dX6_counted_4 (by decide) ?_
  refine lv_istore (lv' := [(4, .int 0), (3, .int 0), (2, .int 0), (0, .ref h0), (1, .int 1)]) hx hb dX6_counted_5 hl (by decide) rfl (fun ls hl => ?_)
  refine lv_iload hx hb dX6_counted_7 (lv_at hl 0 rfl) ?_
  refine lv_aload_n hx hb dX6_counted_9 rfl (lv_at hl 3 rfl) ?_
  refine va_get (D := (dC, dI)) (ci := 11) (v := .int 0) (C := RX6) (T := TX6) (N := 6) hx hb hts u_c_counted_1_X6 hown hK hP 0 rfl rfl 3 (by decide) (hts (.fieldLink RX6 34 "HotelOfBellsModel" "guests" "I") (List.mem_of_getElem? (i := 1) rfl)) (fun _ h9 => h9) rfl dX6_counted_10 ?_
  refine lv_icmp_ge (tgt := 58) hx hb dX6_counted_13 (by decide) (fun _ => ?_) (fun c_1 => absurd (by decide) c_1)
  refine lv_iload_n hx hb dX6_counted_58 rfl (lv_at hl 4 rfl) ?_
  refine lv_tableIn (off := 46) (tgt := 105) hx hb dX6_counted_59 (by decide) (by decide) rfl (by decide) ?_
  refine lv_aload_n hx hb dX6_counted_105 rfl (lv_at hl 3 rfl) ?_
  refine va_get (D := (dC, dI)) (ci := 11) (v := .int 0) (C := RX6) (T := TX6) (N := 6) hx hb hts u_c_counted_1_X6 hown hK hP 0 rfl rfl 2 (by decide) (hts (.fieldLink RX6 31 "HotelOfBellsModel" "lifts" "I") (List.mem_of_getElem? (i := 2) rfl)) (fun _ h9 => h9) rfl dX6_counted_106 ?_
  have hP9 := hP.sub (ws' := [(h0, .inr (11, [.int th, .int 0, .int 0, .int 0, .ref rq, .ref sbq]))]) [0] rfl
  have hD9 := hD.sub (ws' := [(h0, .inr (11, [.int th, .int 0, .int 0, .int 0, .ref rq, .ref sbq]))]) [0] (by decide) rfl
  have hK9 := hK.sub (tys' := []) [] rfl
  exact W.iret (v := 0) hx hb hr (fun t ht hW => ⟨⟨0, (), rfl, rfl, by rw [ht]; exact hP9, va_K.moved hW.alike hK9, hD9⟩, hS.F ht⟩) hS.2.2 dX6_counted_109
def v_c_counted_2 : List Cond := .code yX6_counted cX6_counted 5 (some .int) :: ([Cond.fieldLink RX6 34 "HotelOfBellsModel" "guests" "I"] ++ (wsX60 ++ []))
theorem u_c_counted_2_X6 : ∀ w ∈ wsX60, w ∈ v_c_counted_2 := fun _ h => List.mem_cons_of_mem _ (List.mem_append_right _ (List.mem_append_left _ h))
set_option maxHeartbeats 4000000 in
set_option maxRecDepth 100000 in
theorem c_counted_2 (l : Launch) (hl9 : l.stackTraces = false) (dC : Nat → ClassId) (dI : Nat → Nat → Nat) (tE : Nat) (h0 : Nat) (rq : Nat) (sbq : Nat) (th : Int32) (sz : Nat) : Met l yX6_counted v_c_counted_2 ({ frames := 0, cells := 0, slots := 0, locals := 0 }) (va_Pc [.ref h0, .int 2] (Pre0 dC dI tE sz [] [(h0, .inr (11, [.int th, .int 0, .int 0, .int 0, .ref rq, .ref sbq]))])) (va_Qi (fun (r : Int32) (_ : Unit) => r = 0) (fun _ t => Pst dC dI [] (va_A [(h0, .inr (11, [.int th, .int 0, .int 0, .int 0, .ref rq, .ref sbq]))] sz) [(h0, .inr (11, [.int th, .int 0, .int 0, .int 0, .ref rq, .ref sbq]))] t) (va_A [(h0, .inr (11, [.int th, .int 0, .int 0, .int 0, .ref rq, .ref sbq]))] sz)) 0 0 (va_A [(h0, .inr (11, [.int th, .int 0, .int 0, .int 0, .ref rq, .ref sbq]))] sz) := by
  refine Met.ofW (cc := cX6_counted) (maxL := 5) (ret := (some .int)) (by decide) rfl ?_
  intro p e s m args below meth c s₁ B hml hv
  obtain ⟨rfl, hsz, hP, hK, hD0, hT⟩ := hv
  have hx := B.exec
  have hb := B.bytes
  have hr := B.returns
  have hts := atoms_spec (ws := v_c_counted_2) B.pre
  have hown : s.vm.findClass RX6 = some m.cls := findClass_of_methodNamed B.named
  have hlocks := B.notSynchronized
  subst hsz
  have hD := hD0.self (sz := s.heap.size)
  generalize hAe : va_A [(h0, .inr (11, [.int th, .int 0, .int 0, .int 0, .ref rq, .ref sbq]))] s.heap.size = A at hD hT ⊢
  have hA : ∀ q : Nat, s.heap.size ≤ q → A q := fun q h => by rw [← hAe]; exact Or.inr h
  have hS : va_S A s.heap s.heap [] := va_S.rf
  have hl := lv_entry ([.ref h0, .int 2]) (n := 5) (Nat.le_of_ble_eq_true rfl)
  rw [lg_entry_eq]
  generalize (lg_sl ([.ref h0, .int 2]) ++ List.replicate (5 - (lg_sl ([.ref h0, .int 2])).length) Slot.unset).toArray = ls at hl ⊢
  have hl : lv_has ls 5 [(0, .ref h0), (1, .int 2)] := hl
  refine lv_iconst (v := 0) hx hb dX6_counted_0 (by decide) ?_
  refine lv_istore_n (lv' := [(2, .int 0), (0, .ref h0), (1, .int 2)]) hx hb dX6_counted_1 rfl hl (by decide) rfl (fun ls hl => ?_)
  refine lv_iconst (v := 0) hx hb dX6_counted_2 (by decide) ?_
  refine lv_istore_n (lv' := [(3, .int 0), (2, .int 0), (0, .ref h0), (1, .int 2)]) hx hb dX6_counted_3 rfl hl (by decide) rfl (fun ls hl => ?_)
  refine lv_iconst (v := 0) hx hb dX6_counted_4 (by decide) ?_
  refine lv_istore (lv' := [(4, .int 0), (3, .int 0), (2, .int 0), (0, .ref h0), (1, .int 2)]) hx hb dX6_counted_5 hl (by decide) rfl (fun ls hl => ?_)
  refine lv_iload hx hb dX6_counted_7 (lv_at hl 0 rfl) ?_
  refine lv_aload_n hx hb dX6_counted_9 rfl (lv_at hl 3 rfl) ?_
  refine va_get (D := (dC, dI)) (ci := 11) (v := .int 0) (C := RX6) (T := TX6) (N := 6) hx hb hts u_c_counted_2_X6 hown hK hP 0 rfl rfl 3 (by decide) (hts (.fieldLink RX6 34 "HotelOfBellsModel" "guests" "I") (List.mem_of_getElem? (i := 1) rfl)) (fun _ h9 => h9) rfl dX6_counted_10 ?_
  refine lv_icmp_ge (tgt := 58) hx hb dX6_counted_13 (by decide) (fun _ => ?_) (fun c_1 => absurd (by decide) c_1)
  refine lv_iload_n hx hb dX6_counted_58 rfl (lv_at hl 4 rfl) ?_
  refine lv_tableIn (off := 51) (tgt := 110) hx hb dX6_counted_59 (by decide) (by decide) rfl (by decide) ?_
  refine lv_aload_n hx hb dX6_counted_110 rfl (lv_at hl 3 rfl) ?_
  refine va_get (D := (dC, dI)) (ci := 11) (v := .int 0) (C := RX6) (T := TX6) (N := 6) hx hb hts u_c_counted_2_X6 hown hK hP 0 rfl rfl 3 (by decide) (hts (.fieldLink RX6 34 "HotelOfBellsModel" "guests" "I") (List.mem_of_getElem? (i := 1) rfl)) (fun _ h9 => h9) rfl dX6_counted_111 ?_
  have hP9 := hP.sub (ws' := [(h0, .inr (11, [.int th, .int 0, .int 0, .int 0, .ref rq, .ref sbq]))]) [0] rfl
  have hD9 := hD.sub (ws' := [(h0, .inr (11, [.int th, .int 0, .int 0, .int 0, .ref rq, .ref sbq]))]) [0] (by decide) rfl
  have hK9 := hK.sub (tys' := []) [] rfl
  exact W.iret (v := 0) hx hb hr (fun t ht hW => ⟨⟨0, (), rfl, rfl, by rw [ht]; exact hP9, va_K.moved hW.alike hK9, hD9⟩, hS.F ht⟩) hS.2.2 dX6_counted_114
def v_c_counted_3 : List Cond := .code yX6_counted cX6_counted 5 (some .int) :: ([Cond.fieldLink RX6 34 "HotelOfBellsModel" "guests" "I"] ++ (wsX60 ++ []))
theorem u_c_counted_3_X6 : ∀ w ∈ wsX60, w ∈ v_c_counted_3 := fun _ h => List.mem_cons_of_mem _ (List.mem_append_right _ (List.mem_append_left _ h))
set_option maxHeartbeats 4000000 in
set_option maxRecDepth 100000 in
theorem c_counted_3 (l : Launch) (hl9 : l.stackTraces = false) (dC : Nat → ClassId) (dI : Nat → Nat → Nat) (tE : Nat) (h0 : Nat) (rq : Nat) (sbq : Nat) (th : Int32) (sz : Nat) : Met l yX6_counted v_c_counted_3 ({ frames := 0, cells := 0, slots := 0, locals := 0 }) (va_Pc [.ref h0, .int 3] (Pre0 dC dI tE sz [] [(h0, .inr (11, [.int th, .int 0, .int 0, .int 0, .ref rq, .ref sbq]))])) (va_Qi (fun (r : Int32) (_ : Unit) => r = 0) (fun _ t => Pst dC dI [] (va_A [(h0, .inr (11, [.int th, .int 0, .int 0, .int 0, .ref rq, .ref sbq]))] sz) [(h0, .inr (11, [.int th, .int 0, .int 0, .int 0, .ref rq, .ref sbq]))] t) (va_A [(h0, .inr (11, [.int th, .int 0, .int 0, .int 0, .ref rq, .ref sbq]))] sz)) 0 0 (va_A [(h0, .inr (11, [.int th, .int 0, .int 0, .int 0, .ref rq, .ref sbq]))] sz) := by
  refine Met.ofW (cc := cX6_counted) (maxL := 5) (ret := (some .int)) (by decide) rfl ?_
  intro p e s m args below meth c s₁ B hml hv
  obtain ⟨rfl, hsz, hP, hK, hD0, hT⟩ := hv
  have hx := B.exec
  have hb := B.bytes
  have hr := B.returns
  have hts := atoms_spec (ws := v_c_counted_3) B.pre
  have hown : s.vm.findClass RX6 = some m.cls := findClass_of_methodNamed B.named
  have hlocks := B.notSynchronized
  subst hsz
  have hD := hD0.self (sz := s.heap.size)
  generalize hAe : va_A [(h0, .inr (11, [.int th, .int 0, .int 0, .int 0, .ref rq, .ref sbq]))] s.heap.size = A at hD hT ⊢
  have hA : ∀ q : Nat, s.heap.size ≤ q → A q := fun q h => by rw [← hAe]; exact Or.inr h
  have hS : va_S A s.heap s.heap [] := va_S.rf
  have hl := lv_entry ([.ref h0, .int 3]) (n := 5) (Nat.le_of_ble_eq_true rfl)
  rw [lg_entry_eq]
  generalize (lg_sl ([.ref h0, .int 3]) ++ List.replicate (5 - (lg_sl ([.ref h0, .int 3])).length) Slot.unset).toArray = ls at hl ⊢
  have hl : lv_has ls 5 [(0, .ref h0), (1, .int 3)] := hl
  refine lv_iconst (v := 0) hx hb dX6_counted_0 (by decide) ?_
  refine lv_istore_n (lv' := [(2, .int 0), (0, .ref h0), (1, .int 3)]) hx hb dX6_counted_1 rfl hl (by decide) rfl (fun ls hl => ?_)
  refine lv_iconst (v := 0) hx hb dX6_counted_2 (by decide) ?_
  refine lv_istore_n (lv' := [(3, .int 0), (2, .int 0), (0, .ref h0), (1, .int 3)]) hx hb dX6_counted_3 rfl hl (by decide) rfl (fun ls hl => ?_)
  refine lv_iconst (v := 0) hx hb dX6_counted_4 (by decide) ?_
  refine lv_istore (lv' := [(4, .int 0), (3, .int 0), (2, .int 0), (0, .ref h0), (1, .int 3)]) hx hb dX6_counted_5 hl (by decide) rfl (fun ls hl => ?_)
  refine lv_iload hx hb dX6_counted_7 (lv_at hl 0 rfl) ?_
  refine lv_aload_n hx hb dX6_counted_9 rfl (lv_at hl 3 rfl) ?_
  refine va_get (D := (dC, dI)) (ci := 11) (v := .int 0) (C := RX6) (T := TX6) (N := 6) hx hb hts u_c_counted_3_X6 hown hK hP 0 rfl rfl 3 (by decide) (hts (.fieldLink RX6 34 "HotelOfBellsModel" "guests" "I") (List.mem_of_getElem? (i := 1) rfl)) (fun _ h9 => h9) rfl dX6_counted_10 ?_
  refine lv_icmp_ge (tgt := 58) hx hb dX6_counted_13 (by decide) (fun _ => ?_) (fun c_1 => absurd (by decide) c_1)
  refine lv_iload_n hx hb dX6_counted_58 rfl (lv_at hl 4 rfl) ?_
  refine lv_tableIn (off := 56) (tgt := 115) hx hb dX6_counted_59 (by decide) (by decide) rfl (by decide) ?_
  refine lv_iload_n hx hb dX6_counted_115 rfl (lv_at hl 2 rfl) ?_
  have hP9 := hP.sub (ws' := [(h0, .inr (11, [.int th, .int 0, .int 0, .int 0, .ref rq, .ref sbq]))]) [0] rfl
  have hD9 := hD.sub (ws' := [(h0, .inr (11, [.int th, .int 0, .int 0, .int 0, .ref rq, .ref sbq]))]) [0] (by decide) rfl
  have hK9 := hK.sub (tys' := []) [] rfl
  exact W.iret (v := 0) hx hb hr (fun t ht hW => ⟨⟨0, (), rfl, rfl, by rw [ht]; exact hP9, va_K.moved hW.alike hK9, hD9⟩, hS.F ht⟩) hS.2.2 dX6_counted_116
def v_c_counted_4 : List Cond := .code yX6_counted cX6_counted 5 (some .int) :: ([Cond.fieldLink RX6 34 "HotelOfBellsModel" "guests" "I"] ++ (wsX60 ++ []))
theorem u_c_counted_4_X6 : ∀ w ∈ wsX60, w ∈ v_c_counted_4 := fun _ h => List.mem_cons_of_mem _ (List.mem_append_right _ (List.mem_append_left _ h))
set_option maxHeartbeats 4000000 in
set_option maxRecDepth 100000 in
theorem c_counted_4 (l : Launch) (hl9 : l.stackTraces = false) (dC : Nat → ClassId) (dI : Nat → Nat → Nat) (tE : Nat) (h0 : Nat) (rq : Nat) (sbq : Nat) (th : Int32) (sz : Nat) : Met l yX6_counted v_c_counted_4 ({ frames := 0, cells := 0, slots := 0, locals := 0 }) (va_Pc [.ref h0, .int 4] (Pre0 dC dI tE sz [] [(h0, .inr (11, [.int th, .int 0, .int 0, .int 0, .ref rq, .ref sbq]))])) (va_Qi (fun (r : Int32) (_ : Unit) => r = 0) (fun _ t => Pst dC dI [] (va_A [(h0, .inr (11, [.int th, .int 0, .int 0, .int 0, .ref rq, .ref sbq]))] sz) [(h0, .inr (11, [.int th, .int 0, .int 0, .int 0, .ref rq, .ref sbq]))] t) (va_A [(h0, .inr (11, [.int th, .int 0, .int 0, .int 0, .ref rq, .ref sbq]))] sz)) 0 0 (va_A [(h0, .inr (11, [.int th, .int 0, .int 0, .int 0, .ref rq, .ref sbq]))] sz) := by
  refine Met.ofW (cc := cX6_counted) (maxL := 5) (ret := (some .int)) (by decide) rfl ?_
  intro p e s m args below meth c s₁ B hml hv
  obtain ⟨rfl, hsz, hP, hK, hD0, hT⟩ := hv
  have hx := B.exec
  have hb := B.bytes
  have hr := B.returns
  have hts := atoms_spec (ws := v_c_counted_4) B.pre
  have hown : s.vm.findClass RX6 = some m.cls := findClass_of_methodNamed B.named
  have hlocks := B.notSynchronized
  subst hsz
  have hD := hD0.self (sz := s.heap.size)
  generalize hAe : va_A [(h0, .inr (11, [.int th, .int 0, .int 0, .int 0, .ref rq, .ref sbq]))] s.heap.size = A at hD hT ⊢
  have hA : ∀ q : Nat, s.heap.size ≤ q → A q := fun q h => by rw [← hAe]; exact Or.inr h
  have hS : va_S A s.heap s.heap [] := va_S.rf
  have hl := lv_entry ([.ref h0, .int 4]) (n := 5) (Nat.le_of_ble_eq_true rfl)
  rw [lg_entry_eq]
  generalize (lg_sl ([.ref h0, .int 4]) ++ List.replicate (5 - (lg_sl ([.ref h0, .int 4])).length) Slot.unset).toArray = ls at hl ⊢
  have hl : lv_has ls 5 [(0, .ref h0), (1, .int 4)] := hl
  refine lv_iconst (v := 0) hx hb dX6_counted_0 (by decide) ?_
  refine lv_istore_n (lv' := [(2, .int 0), (0, .ref h0), (1, .int 4)]) hx hb dX6_counted_1 rfl hl (by decide) rfl (fun ls hl => ?_)
  refine lv_iconst (v := 0) hx hb dX6_counted_2 (by decide) ?_
  refine lv_istore_n (lv' := [(3, .int 0), (2, .int 0), (0, .ref h0), (1, .int 4)]) hx hb dX6_counted_3 rfl hl (by decide) rfl (fun ls hl => ?_)
  refine lv_iconst (v := 0) hx hb dX6_counted_4 (by decide) ?_
  refine lv_istore (lv' := [(4, .int 0), (3, .int 0), (2, .int 0), (0, .ref h0), (1, .int 4)]) hx hb dX6_counted_5 hl (by decide) rfl (fun ls hl => ?_)
  refine lv_iload hx hb dX6_counted_7 (lv_at hl 0 rfl) ?_
  refine lv_aload_n hx hb dX6_counted_9 rfl (lv_at hl 3 rfl) ?_
  refine va_get (D := (dC, dI)) (ci := 11) (v := .int 0) (C := RX6) (T := TX6) (N := 6) hx hb hts u_c_counted_4_X6 hown hK hP 0 rfl rfl 3 (by decide) (hts (.fieldLink RX6 34 "HotelOfBellsModel" "guests" "I") (List.mem_of_getElem? (i := 1) rfl)) (fun _ h9 => h9) rfl dX6_counted_10 ?_
  refine lv_icmp_ge (tgt := 58) hx hb dX6_counted_13 (by decide) (fun _ => ?_) (fun c_1 => absurd (by decide) c_1)
  refine lv_iload_n hx hb dX6_counted_58 rfl (lv_at hl 4 rfl) ?_
  refine lv_tableIn (off := 58) (tgt := 117) hx hb dX6_counted_59 (by decide) (by decide) rfl (by decide) ?_
  refine lv_iload_n hx hb dX6_counted_117 rfl (lv_at hl 1 rfl) ?_
  have hP9 := hP.sub (ws' := [(h0, .inr (11, [.int th, .int 0, .int 0, .int 0, .ref rq, .ref sbq]))]) [0] rfl
  have hD9 := hD.sub (ws' := [(h0, .inr (11, [.int th, .int 0, .int 0, .int 0, .ref rq, .ref sbq]))]) [0] (by decide) rfl
  have hK9 := hK.sub (tys' := []) [] rfl
  exact W.iret (v := 0) hx hb hr (fun t ht hW => ⟨⟨0, (), rfl, rfl, by rw [ht]; exact hP9, va_K.moved hW.alike hK9, hD9⟩, hS.F ht⟩) hS.2.2 dX6_counted_118
def v_c_counted_5 : List Cond := .code yX6_counted cX6_counted 5 (some .int) :: ([Cond.fieldLink RX6 34 "HotelOfBellsModel" "guests" "I", Cond.fieldLink RX6 9 "HotelOfBellsModel" "row" "[I"] ++ (wsX60 ++ []))
theorem u_c_counted_5_X6 : ∀ w ∈ wsX60, w ∈ v_c_counted_5 := fun _ h => List.mem_cons_of_mem _ (List.mem_append_right _ (List.mem_append_left _ h))
set_option maxHeartbeats 4000000 in
set_option maxRecDepth 100000 in
theorem c_counted_5 (l : Launch) (hl9 : l.stackTraces = false) (dC : Nat → ClassId) (dI : Nat → Nat → Nat) (tE : Nat) (h0 : Nat) (rq : Nat) (sbq : Nat) (th : Int32) (ci : ClassId) (sz : Nat) : Met l yX6_counted v_c_counted_5 ({ frames := 0, cells := 0, slots := 0, locals := 0 }) (va_Pc [.ref h0, .int 5] (Pre0 dC dI tE sz [(ci, .int)] [(h0, .inr (11, [.int th, .int 0, .int 0, .int 0, .ref rq, .ref sbq])), (rq, .inl (ci, 119, .inl (fun _ => 0)))])) (va_Qi (fun (r : Int32) (_ : Unit) => r = 0) (fun _ t => Pst dC dI [(ci, .int)] (va_A [(h0, .inr (11, [.int th, .int 0, .int 0, .int 0, .ref rq, .ref sbq])), (rq, .inl (ci, 119, .inl (fun _ => 0)))] sz) [(h0, .inr (11, [.int th, .int 0, .int 0, .int 0, .ref rq, .ref sbq])), (rq, .inl (ci, 119, .inl (fun _ => 0)))] t) (va_A [(h0, .inr (11, [.int th, .int 0, .int 0, .int 0, .ref rq, .ref sbq])), (rq, .inl (ci, 119, .inl (fun _ => 0)))] sz)) 0 0 (va_A [(h0, .inr (11, [.int th, .int 0, .int 0, .int 0, .ref rq, .ref sbq])), (rq, .inl (ci, 119, .inl (fun _ => 0)))] sz) := by
  refine Met.ofW (cc := cX6_counted) (maxL := 5) (ret := (some .int)) (by decide) rfl ?_
  intro p e s m args below meth c s₁ B hml hv
  obtain ⟨rfl, hsz, hP, hK, hD0, hT⟩ := hv
  have hx := B.exec
  have hb := B.bytes
  have hr := B.returns
  have hts := atoms_spec (ws := v_c_counted_5) B.pre
  have hown : s.vm.findClass RX6 = some m.cls := findClass_of_methodNamed B.named
  have hlocks := B.notSynchronized
  subst hsz
  have hD := hD0.self (sz := s.heap.size)
  generalize hAe : va_A [(h0, .inr (11, [.int th, .int 0, .int 0, .int 0, .ref rq, .ref sbq])), (rq, .inl (ci, 119, .inl (fun _ => 0)))] s.heap.size = A at hD hT ⊢
  have hA : ∀ q : Nat, s.heap.size ≤ q → A q := fun q h => by rw [← hAe]; exact Or.inr h
  have hS : va_S A s.heap s.heap [] := va_S.rf
  have hl := lv_entry ([.ref h0, .int 5]) (n := 5) (Nat.le_of_ble_eq_true rfl)
  rw [lg_entry_eq]
  generalize (lg_sl ([.ref h0, .int 5]) ++ List.replicate (5 - (lg_sl ([.ref h0, .int 5])).length) Slot.unset).toArray = ls at hl ⊢
  have hl : lv_has ls 5 [(0, .ref h0), (1, .int 5)] := hl
  refine lv_iconst (v := 0) hx hb dX6_counted_0 (by decide) ?_
  refine lv_istore_n (lv' := [(2, .int 0), (0, .ref h0), (1, .int 5)]) hx hb dX6_counted_1 rfl hl (by decide) rfl (fun ls hl => ?_)
  refine lv_iconst (v := 0) hx hb dX6_counted_2 (by decide) ?_
  refine lv_istore_n (lv' := [(3, .int 0), (2, .int 0), (0, .ref h0), (1, .int 5)]) hx hb dX6_counted_3 rfl hl (by decide) rfl (fun ls hl => ?_)
  refine lv_iconst (v := 0) hx hb dX6_counted_4 (by decide) ?_
  refine lv_istore (lv' := [(4, .int 0), (3, .int 0), (2, .int 0), (0, .ref h0), (1, .int 5)]) hx hb dX6_counted_5 hl (by decide) rfl (fun ls hl => ?_)
  refine lv_iload hx hb dX6_counted_7 (lv_at hl 0 rfl) ?_
  refine lv_aload_n hx hb dX6_counted_9 rfl (lv_at hl 3 rfl) ?_
  refine va_get (D := (dC, dI)) (ci := 11) (v := .int 0) (C := RX6) (T := TX6) (N := 6) hx hb hts u_c_counted_5_X6 hown hK hP 0 rfl rfl 3 (by decide) (hts (.fieldLink RX6 34 "HotelOfBellsModel" "guests" "I") (List.mem_of_getElem? (i := 1) rfl)) (fun _ h9 => h9) rfl dX6_counted_10 ?_
  refine lv_icmp_ge (tgt := 58) hx hb dX6_counted_13 (by decide) (fun _ => ?_) (fun c_1 => absurd (by decide) c_1)
  refine lv_iload_n hx hb dX6_counted_58 rfl (lv_at hl 4 rfl) ?_
  refine lv_tableIn (off := 60) (tgt := 119) hx hb dX6_counted_59 (by decide) (by decide) rfl (by decide) ?_
  refine lv_aload_n hx hb dX6_counted_119 rfl (lv_at hl 3 rfl) ?_
  refine va_get (D := (dC, dI)) (ci := 11) (v := .ref rq) (C := RX6) (T := TX6) (N := 6) hx hb hts u_c_counted_5_X6 hown hK hP 0 rfl rfl 4 (by decide) (hts (.fieldLink RX6 9 "HotelOfBellsModel" "row" "[I") (List.mem_of_getElem? (i := 2) rfl)) (fun _ h9 => h9) rfl dX6_counted_120 ?_
  refine lv_bipush (v := 117) hx hb dX6_counted_123 (by decide) ?_
  refine va_iald hx hb hK hP 1 0 rfl rfl (by unfold vp_in; decide) dX6_counted_125 ?_
  refine lv_topi (fun x_2 e_3 => ?_)
  obtain rfl : x_2 = 0 := e_3
  have hP9 := hP.sub (ws' := [(h0, .inr (11, [.int th, .int 0, .int 0, .int 0, .ref rq, .ref sbq])), (rq, .inl (ci, 119, .inl (fun _ => 0)))]) [0, 1] rfl
  have hD9 := hD.sub (ws' := [(h0, .inr (11, [.int th, .int 0, .int 0, .int 0, .ref rq, .ref sbq])), (rq, .inl (ci, 119, .inl (fun _ => 0)))]) [0, 1] (by decide) rfl
  have hK9 := hK.sub (tys' := [(ci, .int)]) [0] rfl
  exact W.iret (v := 0) hx hb hr (fun t ht hW => ⟨⟨0, (), rfl, rfl, by rw [ht]; exact hP9, va_K.moved hW.alike hK9, hD9⟩, hS.F ht⟩) hS.2.2 dX6_counted_126
def v_c_counted_6 : List Cond := .code yX6_counted cX6_counted 5 (some .int) :: ([Cond.fieldLink RX6 34 "HotelOfBellsModel" "guests" "I", Cond.fieldLink RX6 9 "HotelOfBellsModel" "row" "[I"] ++ (wsX60 ++ []))
theorem u_c_counted_6_X6 : ∀ w ∈ wsX60, w ∈ v_c_counted_6 := fun _ h => List.mem_cons_of_mem _ (List.mem_append_right _ (List.mem_append_left _ h))
set_option maxHeartbeats 4000000 in
set_option maxRecDepth 100000 in
theorem c_counted_6 (l : Launch) (hl9 : l.stackTraces = false) (dC : Nat → ClassId) (dI : Nat → Nat → Nat) (tE : Nat) (h0 : Nat) (rq : Nat) (sbq : Nat) (th : Int32) (ci : ClassId) (sz : Nat) : Met l yX6_counted v_c_counted_6 ({ frames := 0, cells := 0, slots := 0, locals := 0 }) (va_Pc [.ref h0, .int 6] (Pre0 dC dI tE sz [(ci, .int)] [(h0, .inr (11, [.int th, .int 0, .int 0, .int 0, .ref rq, .ref sbq])), (rq, .inl (ci, 119, .inl (fun _ => 0)))])) (va_Qi (fun (r : Int32) (_ : Unit) => r = 0) (fun _ t => Pst dC dI [(ci, .int)] (va_A [(h0, .inr (11, [.int th, .int 0, .int 0, .int 0, .ref rq, .ref sbq])), (rq, .inl (ci, 119, .inl (fun _ => 0)))] sz) [(h0, .inr (11, [.int th, .int 0, .int 0, .int 0, .ref rq, .ref sbq])), (rq, .inl (ci, 119, .inl (fun _ => 0)))] t) (va_A [(h0, .inr (11, [.int th, .int 0, .int 0, .int 0, .ref rq, .ref sbq])), (rq, .inl (ci, 119, .inl (fun _ => 0)))] sz)) 0 0 (va_A [(h0, .inr (11, [.int th, .int 0, .int 0, .int 0, .ref rq, .ref sbq])), (rq, .inl (ci, 119, .inl (fun _ => 0)))] sz) := by
  refine Met.ofW (cc := cX6_counted) (maxL := 5) (ret := (some .int)) (by decide) rfl ?_
  intro p e s m args below meth c s₁ B hml hv
  obtain ⟨rfl, hsz, hP, hK, hD0, hT⟩ := hv
  have hx := B.exec
  have hb := B.bytes
  have hr := B.returns
  have hts := atoms_spec (ws := v_c_counted_6) B.pre
  have hown : s.vm.findClass RX6 = some m.cls := findClass_of_methodNamed B.named
  have hlocks := B.notSynchronized
  subst hsz
  have hD := hD0.self (sz := s.heap.size)
  generalize hAe : va_A [(h0, .inr (11, [.int th, .int 0, .int 0, .int 0, .ref rq, .ref sbq])), (rq, .inl (ci, 119, .inl (fun _ => 0)))] s.heap.size = A at hD hT ⊢
  have hA : ∀ q : Nat, s.heap.size ≤ q → A q := fun q h => by rw [← hAe]; exact Or.inr h
  have hS : va_S A s.heap s.heap [] := va_S.rf
  have hl := lv_entry ([.ref h0, .int 6]) (n := 5) (Nat.le_of_ble_eq_true rfl)
  rw [lg_entry_eq]
  generalize (lg_sl ([.ref h0, .int 6]) ++ List.replicate (5 - (lg_sl ([.ref h0, .int 6])).length) Slot.unset).toArray = ls at hl ⊢
  have hl : lv_has ls 5 [(0, .ref h0), (1, .int 6)] := hl
  refine lv_iconst (v := 0) hx hb dX6_counted_0 (by decide) ?_
  refine lv_istore_n (lv' := [(2, .int 0), (0, .ref h0), (1, .int 6)]) hx hb dX6_counted_1 rfl hl (by decide) rfl (fun ls hl => ?_)
  refine lv_iconst (v := 0) hx hb dX6_counted_2 (by decide) ?_
  refine lv_istore_n (lv' := [(3, .int 0), (2, .int 0), (0, .ref h0), (1, .int 6)]) hx hb dX6_counted_3 rfl hl (by decide) rfl (fun ls hl => ?_)
  refine lv_iconst (v := 0) hx hb dX6_counted_4 (by decide) ?_
  refine lv_istore (lv' := [(4, .int 0), (3, .int 0), (2, .int 0), (0, .ref h0), (1, .int 6)]) hx hb dX6_counted_5 hl (by decide) rfl (fun ls hl => ?_)
  refine lv_iload hx hb dX6_counted_7 (lv_at hl 0 rfl) ?_
  refine lv_aload_n hx hb dX6_counted_9 rfl (lv_at hl 3 rfl) ?_
  refine va_get (D := (dC, dI)) (ci := 11) (v := .int 0) (C := RX6) (T := TX6) (N := 6) hx hb hts u_c_counted_6_X6 hown hK hP 0 rfl rfl 3 (by decide) (hts (.fieldLink RX6 34 "HotelOfBellsModel" "guests" "I") (List.mem_of_getElem? (i := 1) rfl)) (fun _ h9 => h9) rfl dX6_counted_10 ?_
  refine lv_icmp_ge (tgt := 58) hx hb dX6_counted_13 (by decide) (fun _ => ?_) (fun c_1 => absurd (by decide) c_1)
  refine lv_iload_n hx hb dX6_counted_58 rfl (lv_at hl 4 rfl) ?_
  refine lv_tableIn (off := 68) (tgt := 127) hx hb dX6_counted_59 (by decide) (by decide) rfl (by decide) ?_
  refine lv_aload_n hx hb dX6_counted_127 rfl (lv_at hl 3 rfl) ?_
  refine va_get (D := (dC, dI)) (ci := 11) (v := .ref rq) (C := RX6) (T := TX6) (N := 6) hx hb hts u_c_counted_6_X6 hown hK hP 0 rfl rfl 4 (by decide) (hts (.fieldLink RX6 9 "HotelOfBellsModel" "row" "[I") (List.mem_of_getElem? (i := 2) rfl)) (fun _ h9 => h9) rfl dX6_counted_128 ?_
  refine lv_bipush (v := 118) hx hb dX6_counted_131 (by decide) ?_
  refine va_iald hx hb hK hP 1 0 rfl rfl (by unfold vp_in; decide) dX6_counted_133 ?_
  refine lv_topi (fun x_2 e_3 => ?_)
  obtain rfl : x_2 = 0 := e_3
  have hP9 := hP.sub (ws' := [(h0, .inr (11, [.int th, .int 0, .int 0, .int 0, .ref rq, .ref sbq])), (rq, .inl (ci, 119, .inl (fun _ => 0)))]) [0, 1] rfl
  have hD9 := hD.sub (ws' := [(h0, .inr (11, [.int th, .int 0, .int 0, .int 0, .ref rq, .ref sbq])), (rq, .inl (ci, 119, .inl (fun _ => 0)))]) [0, 1] (by decide) rfl
  have hK9 := hK.sub (tys' := [(ci, .int)]) [0] rfl
  exact W.iret (v := 0) hx hb hr (fun t ht hW => ⟨⟨0, (), rfl, rfl, by rw [ht]; exact hP9, va_K.moved hW.alike hK9, hD9⟩, hS.F ht⟩) hS.2.2 dX6_counted_134
def v_c_counted_7 : List Cond := .code yX6_counted cX6_counted 5 (some .int) :: ([Cond.fieldLink RX6 34 "HotelOfBellsModel" "guests" "I", Cond.fieldLink RX6 16 "HotelOfBellsModel" "paper" "Ljava/lang/StringBuilder;", Cond.code yJ4_length_8abf5 cJ4_length_8abf5 1 (some .int), Cond.code yJ5_length_8abf5 cJ5_length_8abf5 1 (some .int), Cond.fieldLink RJ5 79 "java/lang/AbstractStringBuilder" "count" "I", Cond.methodLink RJ4 343 yJ5_length_8abf5, Cond.sameMethod RJ5 RJ5 "length" "()I", Cond.superclass RJ4 RJ5, Cond.instanceMethod yJ5_length_8abf5, Cond.initialized RJ5, Cond.methodLink RX6 111 yJ4_length_8abf5, Cond.instanceMethod yJ4_length_8abf5, Cond.selects RJ4 yJ4_length_8abf5 yJ4_length_8abf5, Cond.initialized RJ4] ++ (wsX60 ++ (wsJ40 ++ [])))
theorem u_c_counted_7_X6 : ∀ w ∈ wsX60, w ∈ v_c_counted_7 := fun _ h => List.mem_cons_of_mem _ (List.mem_append_right _ (List.mem_append_left _ h))
theorem u_c_counted_7_J4 : ∀ w ∈ wsJ40, w ∈ v_c_counted_7 := fun _ h => List.mem_cons_of_mem _ (List.mem_append_right _ (List.mem_append_right _ (List.mem_append_left _ h)))
theorem gg_c_counted_7_c_SB_len : GoodIn v_c_counted_7 v_c_SB_len := goodIn_r _ [3, 4, 5, 6, 7, 8, 9, 10, 21, 22, 23, 24] (by rfl) (by decide +kernel)
set_option maxHeartbeats 4000000 in
set_option maxRecDepth 100000 in
theorem c_counted_7 (l : Launch) (hl9 : l.stackTraces = false) (dC : Nat → ClassId) (dI : Nat → Nat → Nat) (tE : Nat) (h0 : Nat) (rq : Nat) (sbq : Nat) (th : Int32) (vq : Nat) (sz : Nat) : Met l yX6_counted v_c_counted_7 ({ frames := 2, cells := 0, slots := 0, locals := 40 }) (va_Pc [.ref h0, .int 7] (Pre0 dC dI tE sz [] [(h0, .inr (11, [.int th, .int 0, .int 0, .int 0, .ref rq, .ref sbq])), (sbq, .inr (1, [.ref vq, .int 0, .int 0, .int 0]))])) (va_Qi (fun (r : Int32) (_ : Unit) => r = 0) (fun _ t => Pst dC dI [] (va_A [(h0, .inr (11, [.int th, .int 0, .int 0, .int 0, .ref rq, .ref sbq])), (sbq, .inr (1, [.ref vq, .int 0, .int 0, .int 0]))] sz) [(h0, .inr (11, [.int th, .int 0, .int 0, .int 0, .ref rq, .ref sbq])), (sbq, .inr (1, [.ref vq, .int 0, .int 0, .int 0]))] t) (va_A [(h0, .inr (11, [.int th, .int 0, .int 0, .int 0, .ref rq, .ref sbq])), (sbq, .inr (1, [.ref vq, .int 0, .int 0, .int 0]))] sz)) 0 0 (va_A [(h0, .inr (11, [.int th, .int 0, .int 0, .int 0, .ref rq, .ref sbq])), (sbq, .inr (1, [.ref vq, .int 0, .int 0, .int 0]))] sz) := by
  refine Met.ofW (cc := cX6_counted) (maxL := 5) (ret := (some .int)) (by decide) rfl ?_
  intro p e s m args below meth c s₁ B hml hv
  obtain ⟨rfl, hsz, hP, hK, hD0, hT⟩ := hv
  have hx := B.exec
  have hb := B.bytes
  have hr := B.returns
  have hts := atoms_spec (ws := v_c_counted_7) B.pre
  have hown : s.vm.findClass RX6 = some m.cls := findClass_of_methodNamed B.named
  have hlocks := B.notSynchronized
  subst hsz
  have hD := hD0.self (sz := s.heap.size)
  generalize hAe : va_A [(h0, .inr (11, [.int th, .int 0, .int 0, .int 0, .ref rq, .ref sbq])), (sbq, .inr (1, [.ref vq, .int 0, .int 0, .int 0]))] s.heap.size = A at hD hT ⊢
  have hA : ∀ q : Nat, s.heap.size ≤ q → A q := fun q h => by rw [← hAe]; exact Or.inr h
  have hS : va_S A s.heap s.heap [] := va_S.rf
  have hl := lv_entry ([.ref h0, .int 7]) (n := 5) (Nat.le_of_ble_eq_true rfl)
  rw [lg_entry_eq]
  generalize (lg_sl ([.ref h0, .int 7]) ++ List.replicate (5 - (lg_sl ([.ref h0, .int 7])).length) Slot.unset).toArray = ls at hl ⊢
  have hl : lv_has ls 5 [(0, .ref h0), (1, .int 7)] := hl
  refine lv_iconst (v := 0) hx hb dX6_counted_0 (by decide) ?_
  refine lv_istore_n (lv' := [(2, .int 0), (0, .ref h0), (1, .int 7)]) hx hb dX6_counted_1 rfl hl (by decide) rfl (fun ls hl => ?_)
  refine lv_iconst (v := 0) hx hb dX6_counted_2 (by decide) ?_
  refine lv_istore_n (lv' := [(3, .int 0), (2, .int 0), (0, .ref h0), (1, .int 7)]) hx hb dX6_counted_3 rfl hl (by decide) rfl (fun ls hl => ?_)
  refine lv_iconst (v := 0) hx hb dX6_counted_4 (by decide) ?_
  refine lv_istore (lv' := [(4, .int 0), (3, .int 0), (2, .int 0), (0, .ref h0), (1, .int 7)]) hx hb dX6_counted_5 hl (by decide) rfl (fun ls hl => ?_)
  refine lv_iload hx hb dX6_counted_7 (lv_at hl 0 rfl) ?_
  refine lv_aload_n hx hb dX6_counted_9 rfl (lv_at hl 3 rfl) ?_
  refine va_get (D := (dC, dI)) (ci := 11) (v := .int 0) (C := RX6) (T := TX6) (N := 6) hx hb hts u_c_counted_7_X6 hown hK hP 0 rfl rfl 3 (by decide) (hts (.fieldLink RX6 34 "HotelOfBellsModel" "guests" "I") (List.mem_of_getElem? (i := 1) rfl)) (fun _ h9 => h9) rfl dX6_counted_10 ?_
  refine lv_icmp_ge (tgt := 58) hx hb dX6_counted_13 (by decide) (fun _ => ?_) (fun c_1 => absurd (by decide) c_1)
  refine lv_iload_n hx hb dX6_counted_58 rfl (lv_at hl 4 rfl) ?_
  refine lv_tableOut (tgt := 135) hx hb dX6_counted_59 (by decide) (by decide) ?_
  refine lv_aload_n hx hb dX6_counted_135 rfl (lv_at hl 3 rfl) ?_
  refine va_get (D := (dC, dI)) (ci := 11) (v := .ref sbq) (C := RX6) (T := TX6) (N := 6) hx hb hts u_c_counted_7_X6 hown hK hP 0 rfl rfl 5 (by decide) (hts (.fieldLink RX6 16 "HotelOfBellsModel" "paper" "Ljava/lang/StringBuilder;") (List.mem_of_getElem? (i := 2) rfl)) (fun _ h9 => h9) rfl dX6_counted_136 ?_
  have hPc := hP.sub (ws' := [(sbq, .inr (1, [.ref vq, .int 0, .int 0, .int 0]))]) [1] rfl
  have hDc := hD.sub (ws' := [(sbq, .inr (1, [.ref vq, .int 0, .int 0, .int 0]))]) [1] (by decide) rfl
  have hKc := hK.sub (tys' := []) [] rfl
  have hFc := va_free (wc := [(sbq, .inr (1, [.ref vq, .int 0, .int 0, .int 0]))]) hD hS hA [1] rfl
  refine va_calli (va_runV (As := []) (rest := []) ⟨hx, hb, hml, hown, hts⟩ (c_SB_len l hl9 dC dI tE sbq vq _ ) (cwV 0 hts (goodIn_app (goodIn_r _ [11, 12, 13, 14] (by rfl) (by decide +kernel)) gg_c_counted_7_c_SB_len) rfl rfl rfl (by decide +kernel) ⟨Nat.le_of_ble_eq_true rfl, Nat.le_of_ble_eq_true rfl⟩) ⟨Pre0.blind, va_recv hKc hPc (ci := 1) (q0 := 0) rfl rfl, Pre0.give hPc hKc hDc hT hS hFc⟩ rfl rfl hl.1 rfl (lv_room (Nat.le_of_ble_eq_true rfl)) dX6_counted_139 ⟨Nat.le_of_ble_eq_true rfl, Nat.le_of_ble_eq_true rfl⟩) hS (fun q _ h => hFc q h) hFc (fun r_2 u t H1 locs ht hvm hw hB hz1 hk1 hS => ?_)
  obtain ⟨hP1, hK1, hD1⟩ := hB
  rw [ht] at hP1
  have hK1 := va_K.moved hvm.symm hK1
  obtain ⟨hP, hD⟩ := va_join (wr := [(h0, .inr (11, [.int th, .int 0, .int 0, .int 0, .ref rq, .ref sbq]))]) (w1 := [(sbq, .inr (1, [.ref vq, .int 0, .int 0, .int 0]))]) hP hD [1] [0] rfl rfl (by decide) (by decide) hk1 hFc hP1 hD1
  generalize H1 = H at hP hS ⊢
  have hP : va_P (dC, dI) vwCl [(h0, .inr (11, [.int th, .int 0, .int 0, .int 0, .ref rq, .ref sbq])), (sbq, .inr (1, [.ref vq, .int 0, .int 0, .int 0]))] H := hP
  have hD : va_D A [(h0, .inr (11, [.int th, .int 0, .int 0, .int 0, .ref rq, .ref sbq])), (sbq, .inr (1, [.ref vq, .int 0, .int 0, .int 0]))] := hD
  refine W.widen (k := 0) (n := 0) (by omega) (by omega) ?_
  obtain rfl : r_2 = 0 := hw
  have hP9 := hP.sub (ws' := [(h0, .inr (11, [.int th, .int 0, .int 0, .int 0, .ref rq, .ref sbq])), (sbq, .inr (1, [.ref vq, .int 0, .int 0, .int 0]))]) [0, 1] rfl
  have hD9 := hD.sub (ws' := [(h0, .inr (11, [.int th, .int 0, .int 0, .int 0, .ref rq, .ref sbq])), (sbq, .inr (1, [.ref vq, .int 0, .int 0, .int 0]))]) [0, 1] (by decide) rfl
  have hK9 := hK.sub (tys' := []) [] rfl
  exact W.iret (v := 0) hx hb hr (fun t ht hW => ⟨⟨0, (), rfl, rfl, by rw [ht]; exact hP9, va_K.moved hW.alike hK9, hD9⟩, hS.F ht⟩) hS.2.2 dX6_counted_142
def v_c_M_count_0 : List Cond := .code yX6_count cX6_count 2 (some .int) :: ([Cond.fieldLink RX6 20 "HotelOfBellsModel" "thrown" "I", Cond.code yX6_isIn cX6_isIn 3 (some .boolean), Cond.methodLink RX6 27 yX6_isIn, Cond.static yX6_isIn, Cond.initialized RX6, Cond.code yX6_counted cX6_counted 5 (some .int), Cond.fieldLink RX6 34 "HotelOfBellsModel" "guests" "I", Cond.fieldLink RX6 24 "HotelOfBellsModel" "floors" "I", Cond.methodLink RX6 115 yX6_counted, Cond.instanceMethod yX6_counted, Cond.selects RX6 yX6_counted yX6_counted] ++ (wsX60 ++ []))
theorem u_c_M_count_0_X6 : ∀ w ∈ wsX60, w ∈ v_c_M_count_0 := fun _ h => List.mem_cons_of_mem _ (List.mem_append_right _ (List.mem_append_left _ h))
theorem gg_c_M_count_0_c_isIn_t : GoodIn v_c_M_count_0 v_c_isIn_t := goodIn_r _ [2] (by rfl) (by decide +kernel)
theorem gg_c_M_count_0_c_counted_0 : GoodIn v_c_M_count_0 v_c_counted_0 := goodIn_r _ [6, 7, 8, 12, 13, 14, 15, 16, 17] (by rfl) (by decide +kernel)
set_option maxHeartbeats 4000000 in
set_option maxRecDepth 100000 in
theorem c_M_count_0 (l : Launch) (hl9 : l.stackTraces = false) (dC : Nat → ClassId) (dI : Nat → Nat → Nat) (tE : Nat) (h0 : Nat) (rq : Nat) (sbq : Nat) (th : Int32) (sz : Nat) : Met l yX6_count v_c_M_count_0 ({ frames := 1, cells := 0, slots := 0, locals := 24 }) (va_Pc [.ref h0, .int 0] (Pre0 dC dI tE sz [] [(h0, .inr (11, [.int th, .int 0, .int 0, .int 0, .ref rq, .ref sbq]))])) (va_Qi (fun (r : Int32) (_ : Unit) => r = 0) (fun _ t => Pst dC dI [] (va_A [(h0, .inr (11, [.int th, .int 0, .int 0, .int 0, .ref rq, .ref sbq]))] sz) [(h0, .inr (11, [.int 0, .int 0, .int 0, .int 0, .ref rq, .ref sbq]))] t) (va_A [(h0, .inr (11, [.int th, .int 0, .int 0, .int 0, .ref rq, .ref sbq]))] sz)) 0 0 (va_A [(h0, .inr (11, [.int th, .int 0, .int 0, .int 0, .ref rq, .ref sbq]))] sz) := by
  refine Met.ofW (cc := cX6_count) (maxL := 2) (ret := (some .int)) (by decide) rfl ?_
  intro p e s m args below meth c s₁ B hml hv
  obtain ⟨rfl, hsz, hP, hK, hD0, hT⟩ := hv
  have hx := B.exec
  have hb := B.bytes
  have hr := B.returns
  have hts := atoms_spec (ws := v_c_M_count_0) B.pre
  have hown : s.vm.findClass RX6 = some m.cls := findClass_of_methodNamed B.named
  have hlocks := B.notSynchronized
  subst hsz
  have hD := hD0.self (sz := s.heap.size)
  generalize hAe : va_A [(h0, .inr (11, [.int th, .int 0, .int 0, .int 0, .ref rq, .ref sbq]))] s.heap.size = A at hD hT ⊢
  have hA : ∀ q : Nat, s.heap.size ≤ q → A q := fun q h => by rw [← hAe]; exact Or.inr h
  have hS : va_S A s.heap s.heap [] := va_S.rf
  have hl := lv_entry ([.ref h0, .int 0]) (n := 2) (Nat.le_of_ble_eq_true rfl)
  rw [lg_entry_eq]
  generalize (lg_sl ([.ref h0, .int 0]) ++ List.replicate (2 - (lg_sl ([.ref h0, .int 0])).length) Slot.unset).toArray = ls at hl ⊢
  have hl : lv_has ls 2 [(0, .ref h0), (1, .int 0)] := hl
  refine lv_aload_n hx hb dX6_count_0 rfl (lv_at hl 0 rfl) ?_
  refine lv_iconst (v := 0) hx hb dX6_count_1 (by decide) ?_
  refine va_put (D := (dC, dI)) (ci := 11) (v := .int 0) (ty := .int) (C := RX6) (T := TX6) (N := 6) hx hb hts u_c_M_count_0_X6 tyX6 tyX6_ok nmX6 hown hK hP hD hS 0 rfl rfl 0 (by decide) (hts (.fieldLink RX6 20 "HotelOfBellsModel" "thrown" "I") (List.mem_of_getElem? (i := 1) rfl)) (fun _ h9 => h9) rfl (by decide +kernel) rfl rfl (Nat.le_of_ble_eq_true rfl) dX6_count_2 (fun H locs hP hD hS => ?_)
  have hP : va_P (dC, dI) vwCl [(h0, .inr (11, [.int 0, .int 0, .int 0, .int 0, .ref rq, .ref sbq]))] H := hP
  have hD : va_D A [(h0, .inr (11, [.int 0, .int 0, .int 0, .int 0, .ref rq, .ref sbq]))] := hD
  refine lv_iload_n hx hb dX6_count_5 rfl (lv_at hl 1 rfl) ?_
  refine lv_iconst (v := 0) hx hb dX6_count_6 (by decide) ?_
  refine lv_bipush (v := 7) hx hb dX6_count_7 (by decide) ?_
  have hPc := hP.sub (ws' := []) [] rfl
  have hDc := hD.sub (ws' := []) [] (by decide) rfl
  have hKc := hK.sub (tys' := []) [] rfl
  have hFc := va_free (wc := []) hD hS hA [] rfl
  refine va_calli (va_runS (As := [.int 0, .int 0, .int 7]) (rest := []) ⟨hx, hb, hml, hown, hts⟩ (c_isIn_t l hl9 dC dI tE 0 0 7 _ (by first | assumption | decide | omega) (by first | assumption | decide | omega)) (va_cwS 3 hts (goodIn_app (goodIn_r _ [3, 4, 5] (by rfl) (by decide +kernel)) gg_c_M_count_0_c_isIn_t) rfl rfl rfl (by decide +kernel) ⟨Nat.le_of_ble_eq_true rfl, Nat.le_of_ble_eq_true rfl⟩) ⟨Pre0.blind, Pre0.give hPc hKc hDc hT hS hFc⟩ rfl rfl hl.1 rfl (lv_room (Nat.le_of_ble_eq_true rfl)) dX6_count_9 ⟨Nat.le_of_ble_eq_true rfl, Nat.le_of_ble_eq_true rfl⟩) hS (fun q _ h => hFc q h) hFc (fun r_1 u t H1 locs ht hvm hw hB hz1 hk1 hS => ?_)
  obtain ⟨hP1, hK1, hD1⟩ := hB
  rw [ht] at hP1
  have hK1 := va_K.moved hvm.symm hK1
  obtain ⟨hP, hD⟩ := va_join (wr := [(h0, .inr (11, [.int 0, .int 0, .int 0, .int 0, .ref rq, .ref sbq]))]) (w1 := []) hP hD [] [0] rfl rfl (by decide) (by decide) hk1 hFc hP1 hD1
  generalize H1 = H at hP hS ⊢
  have hP : va_P (dC, dI) vwCl [(h0, .inr (11, [.int 0, .int 0, .int 0, .int 0, .ref rq, .ref sbq]))] H := hP
  have hD : va_D A [(h0, .inr (11, [.int 0, .int 0, .int 0, .int 0, .ref rq, .ref sbq]))] := hD
  refine W.widen (k := 0) (n := 0) (by omega) (by omega) ?_
  obtain rfl : r_1 = 1 := hw
  refine lv_if_eq (tgt := 23) hx hb dX6_count_12 (by decide) (fun c_2 => absurd c_2 (by decide)) (fun _ => ?_)
  refine lv_aload_n hx hb dX6_count_15 rfl (lv_at hl 0 rfl) ?_
  refine lv_iload_n hx hb dX6_count_16 rfl (lv_at hl 1 rfl) ?_
  have hPc := hP.sub (ws' := [(h0, .inr (11, [.int 0, .int 0, .int 0, .int 0, .ref rq, .ref sbq]))]) [0] rfl
  have hDc := hD.sub (ws' := [(h0, .inr (11, [.int 0, .int 0, .int 0, .int 0, .ref rq, .ref sbq]))]) [0] (by decide) rfl
  have hKc := hK.sub (tys' := []) [] rfl
  have hFc := va_free (wc := [(h0, .inr (11, [.int 0, .int 0, .int 0, .int 0, .ref rq, .ref sbq]))]) hD hS hA [0] rfl
  refine va_calli (va_runV (As := [.int 0]) (rest := []) ⟨hx, hb, hml, hown, hts⟩ (c_counted_0 l hl9 dC dI tE h0 rq sbq 0 _ ) (cwV 1 hts (goodIn_app (goodIn_r _ [9, 10, 11, 5] (by rfl) (by decide +kernel)) gg_c_M_count_0_c_counted_0) rfl rfl rfl (by decide +kernel) ⟨Nat.le_of_ble_eq_true rfl, Nat.le_of_ble_eq_true rfl⟩) ⟨Pre0.blind, va_recv hKc hPc (ci := 11) (q0 := 0) rfl rfl, Pre0.give hPc hKc hDc hT hS hFc⟩ rfl rfl hl.1 rfl (lv_room (Nat.le_of_ble_eq_true rfl)) dX6_count_17 ⟨Nat.le_of_ble_eq_true rfl, Nat.le_of_ble_eq_true rfl⟩) hS (fun q _ h => hFc q h) hFc (fun r_3 u t H1 locs ht hvm hw hB hz1 hk1 hS => ?_)
  obtain ⟨hP1, hK1, hD1⟩ := hB
  rw [ht] at hP1
  have hK1 := va_K.moved hvm.symm hK1
  obtain ⟨hP, hD⟩ := va_join (wr := []) (w1 := [(h0, .inr (11, [.int 0, .int 0, .int 0, .int 0, .ref rq, .ref sbq]))]) hP hD [0] [] rfl rfl (by decide) (by decide) hk1 hFc hP1 hD1
  generalize H1 = H at hP hS ⊢
  have hP : va_P (dC, dI) vwCl [(h0, .inr (11, [.int 0, .int 0, .int 0, .int 0, .ref rq, .ref sbq]))] H := hP
  have hD : va_D A [(h0, .inr (11, [.int 0, .int 0, .int 0, .int 0, .ref rq, .ref sbq]))] := hD
  refine W.widen (k := 0) (n := 0) (by omega) (by omega) ?_
  obtain rfl : r_3 = 0 := hw
  refine lv_goto (tgt := 28) hx hb dX6_count_20 (by decide) ?_
  have hP9 := hP.sub (ws' := [(h0, .inr (11, [.int 0, .int 0, .int 0, .int 0, .ref rq, .ref sbq]))]) [0] rfl
  have hD9 := hD.sub (ws' := [(h0, .inr (11, [.int 0, .int 0, .int 0, .int 0, .ref rq, .ref sbq]))]) [0] (by decide) rfl
  have hK9 := hK.sub (tys' := []) [] rfl
  exact W.iret (v := 0) hx hb hr (fun t ht hW => ⟨⟨0, (), rfl, rfl, by rw [ht]; exact hP9, va_K.moved hW.alike hK9, hD9⟩, hS.F ht⟩) hS.2.2 dX6_count_28
def v_c_M_count_1 : List Cond := .code yX6_count cX6_count 2 (some .int) :: ([Cond.fieldLink RX6 20 "HotelOfBellsModel" "thrown" "I", Cond.code yX6_isIn cX6_isIn 3 (some .boolean), Cond.methodLink RX6 27 yX6_isIn, Cond.static yX6_isIn, Cond.initialized RX6, Cond.code yX6_counted cX6_counted 5 (some .int), Cond.fieldLink RX6 34 "HotelOfBellsModel" "guests" "I", Cond.fieldLink RX6 31 "HotelOfBellsModel" "lifts" "I", Cond.methodLink RX6 115 yX6_counted, Cond.instanceMethod yX6_counted, Cond.selects RX6 yX6_counted yX6_counted] ++ (wsX60 ++ []))
theorem u_c_M_count_1_X6 : ∀ w ∈ wsX60, w ∈ v_c_M_count_1 := fun _ h => List.mem_cons_of_mem _ (List.mem_append_right _ (List.mem_append_left _ h))
theorem gg_c_M_count_1_c_isIn_t : GoodIn v_c_M_count_1 v_c_isIn_t := goodIn_r _ [2] (by rfl) (by decide +kernel)
theorem gg_c_M_count_1_c_counted_1 : GoodIn v_c_M_count_1 v_c_counted_1 := goodIn_r _ [6, 7, 8, 12, 13, 14, 15, 16, 17] (by rfl) (by decide +kernel)
set_option maxHeartbeats 4000000 in
set_option maxRecDepth 100000 in
theorem c_M_count_1 (l : Launch) (hl9 : l.stackTraces = false) (dC : Nat → ClassId) (dI : Nat → Nat → Nat) (tE : Nat) (h0 : Nat) (rq : Nat) (sbq : Nat) (th : Int32) (sz : Nat) : Met l yX6_count v_c_M_count_1 ({ frames := 1, cells := 0, slots := 0, locals := 24 }) (va_Pc [.ref h0, .int 1] (Pre0 dC dI tE sz [] [(h0, .inr (11, [.int th, .int 0, .int 0, .int 0, .ref rq, .ref sbq]))])) (va_Qi (fun (r : Int32) (_ : Unit) => r = 0) (fun _ t => Pst dC dI [] (va_A [(h0, .inr (11, [.int th, .int 0, .int 0, .int 0, .ref rq, .ref sbq]))] sz) [(h0, .inr (11, [.int 0, .int 0, .int 0, .int 0, .ref rq, .ref sbq]))] t) (va_A [(h0, .inr (11, [.int th, .int 0, .int 0, .int 0, .ref rq, .ref sbq]))] sz)) 0 0 (va_A [(h0, .inr (11, [.int th, .int 0, .int 0, .int 0, .ref rq, .ref sbq]))] sz) := by
  refine Met.ofW (cc := cX6_count) (maxL := 2) (ret := (some .int)) (by decide) rfl ?_
  intro p e s m args below meth c s₁ B hml hv
  obtain ⟨rfl, hsz, hP, hK, hD0, hT⟩ := hv
  have hx := B.exec
  have hb := B.bytes
  have hr := B.returns
  have hts := atoms_spec (ws := v_c_M_count_1) B.pre
  have hown : s.vm.findClass RX6 = some m.cls := findClass_of_methodNamed B.named
  have hlocks := B.notSynchronized
  subst hsz
  have hD := hD0.self (sz := s.heap.size)
  generalize hAe : va_A [(h0, .inr (11, [.int th, .int 0, .int 0, .int 0, .ref rq, .ref sbq]))] s.heap.size = A at hD hT ⊢
  have hA : ∀ q : Nat, s.heap.size ≤ q → A q := fun q h => by rw [← hAe]; exact Or.inr h
  have hS : va_S A s.heap s.heap [] := va_S.rf
  have hl := lv_entry ([.ref h0, .int 1]) (n := 2) (Nat.le_of_ble_eq_true rfl)
  rw [lg_entry_eq]
  generalize (lg_sl ([.ref h0, .int 1]) ++ List.replicate (2 - (lg_sl ([.ref h0, .int 1])).length) Slot.unset).toArray = ls at hl ⊢
  have hl : lv_has ls 2 [(0, .ref h0), (1, .int 1)] := hl
  refine lv_aload_n hx hb dX6_count_0 rfl (lv_at hl 0 rfl) ?_
  refine lv_iconst (v := 0) hx hb dX6_count_1 (by decide) ?_
  refine va_put (D := (dC, dI)) (ci := 11) (v := .int 0) (ty := .int) (C := RX6) (T := TX6) (N := 6) hx hb hts u_c_M_count_1_X6 tyX6 tyX6_ok nmX6 hown hK hP hD hS 0 rfl rfl 0 (by decide) (hts (.fieldLink RX6 20 "HotelOfBellsModel" "thrown" "I") (List.mem_of_getElem? (i := 1) rfl)) (fun _ h9 => h9) rfl (by decide +kernel) rfl rfl (Nat.le_of_ble_eq_true rfl) dX6_count_2 (fun H locs hP hD hS => ?_)
  have hP : va_P (dC, dI) vwCl [(h0, .inr (11, [.int 0, .int 0, .int 0, .int 0, .ref rq, .ref sbq]))] H := hP
  have hD : va_D A [(h0, .inr (11, [.int 0, .int 0, .int 0, .int 0, .ref rq, .ref sbq]))] := hD
  refine lv_iload_n hx hb dX6_count_5 rfl (lv_at hl 1 rfl) ?_
  refine lv_iconst (v := 0) hx hb dX6_count_6 (by decide) ?_
  refine lv_bipush (v := 7) hx hb dX6_count_7 (by decide) ?_
  have hPc := hP.sub (ws' := []) [] rfl
  have hDc := hD.sub (ws' := []) [] (by decide) rfl
  have hKc := hK.sub (tys' := []) [] rfl
  have hFc := va_free (wc := []) hD hS hA [] rfl
  refine va_calli (va_runS (As := [.int 1, .int 0, .int 7]) (rest := []) ⟨hx, hb, hml, hown, hts⟩ (c_isIn_t l hl9 dC dI tE 1 0 7 _ (by first | assumption | decide | omega) (by first | assumption | decide | omega)) (va_cwS 3 hts (goodIn_app (goodIn_r _ [3, 4, 5] (by rfl) (by decide +kernel)) gg_c_M_count_1_c_isIn_t) rfl rfl rfl (by decide +kernel) ⟨Nat.le_of_ble_eq_true rfl, Nat.le_of_ble_eq_true rfl⟩) ⟨Pre0.blind, Pre0.give hPc hKc hDc hT hS hFc⟩ rfl rfl hl.1 rfl (lv_room (Nat.le_of_ble_eq_true rfl)) dX6_count_9 ⟨Nat.le_of_ble_eq_true rfl, Nat.le_of_ble_eq_true rfl⟩) hS (fun q _ h => hFc q h) hFc (fun r_1 u t H1 locs ht hvm hw hB hz1 hk1 hS => ?_)
  obtain ⟨hP1, hK1, hD1⟩ := hB
  rw [ht] at hP1
  have hK1 := va_K.moved hvm.symm hK1
  obtain ⟨hP, hD⟩ := va_join (wr := [(h0, .inr (11, [.int 0, .int 0, .int 0, .int 0, .ref rq, .ref sbq]))]) (w1 := []) hP hD [] [0] rfl rfl (by decide) (by decide) hk1 hFc hP1 hD1
  generalize H1 = H at hP hS ⊢
  have hP : va_P (dC, dI) vwCl [(h0, .inr (11, [.int 0, .int 0, .int 0, .int 0, .ref rq, .ref sbq]))] H := hP
  have hD : va_D A [(h0, .inr (11, [.int 0, .int 0, .int 0, .int 0, .ref rq, .ref sbq]))] := hD
  refine W.widen (k := 0) (n := 0) (by omega) (by omega) ?_
  obtain rfl : r_1 = 1 := hw
  refine lv_if_eq (tgt := 23) hx hb dX6_count_12 (by decide) (fun c_2 => absurd c_2 (by decide)) (fun _ => ?_)
  refine lv_aload_n hx hb dX6_count_15 rfl (lv_at hl 0 rfl) ?_
  refine lv_iload_n hx hb dX6_count_16 rfl (lv_at hl 1 rfl) ?_
  have hPc := hP.sub (ws' := [(h0, .inr (11, [.int 0, .int 0, .int 0, .int 0, .ref rq, .ref sbq]))]) [0] rfl
  have hDc := hD.sub (ws' := [(h0, .inr (11, [.int 0, .int 0, .int 0, .int 0, .ref rq, .ref sbq]))]) [0] (by decide) rfl
  have hKc := hK.sub (tys' := []) [] rfl
  have hFc := va_free (wc := [(h0, .inr (11, [.int 0, .int 0, .int 0, .int 0, .ref rq, .ref sbq]))]) hD hS hA [0] rfl
  refine va_calli (va_runV (As := [.int 1]) (rest := []) ⟨hx, hb, hml, hown, hts⟩ (c_counted_1 l hl9 dC dI tE h0 rq sbq 0 _ ) (cwV 1 hts (goodIn_app (goodIn_r _ [9, 10, 11, 5] (by rfl) (by decide +kernel)) gg_c_M_count_1_c_counted_1) rfl rfl rfl (by decide +kernel) ⟨Nat.le_of_ble_eq_true rfl, Nat.le_of_ble_eq_true rfl⟩) ⟨Pre0.blind, va_recv hKc hPc (ci := 11) (q0 := 0) rfl rfl, Pre0.give hPc hKc hDc hT hS hFc⟩ rfl rfl hl.1 rfl (lv_room (Nat.le_of_ble_eq_true rfl)) dX6_count_17 ⟨Nat.le_of_ble_eq_true rfl, Nat.le_of_ble_eq_true rfl⟩) hS (fun q _ h => hFc q h) hFc (fun r_3 u t H1 locs ht hvm hw hB hz1 hk1 hS => ?_)
  obtain ⟨hP1, hK1, hD1⟩ := hB
  rw [ht] at hP1
  have hK1 := va_K.moved hvm.symm hK1
  obtain ⟨hP, hD⟩ := va_join (wr := []) (w1 := [(h0, .inr (11, [.int 0, .int 0, .int 0, .int 0, .ref rq, .ref sbq]))]) hP hD [0] [] rfl rfl (by decide) (by decide) hk1 hFc hP1 hD1
  generalize H1 = H at hP hS ⊢
  have hP : va_P (dC, dI) vwCl [(h0, .inr (11, [.int 0, .int 0, .int 0, .int 0, .ref rq, .ref sbq]))] H := hP
  have hD : va_D A [(h0, .inr (11, [.int 0, .int 0, .int 0, .int 0, .ref rq, .ref sbq]))] := hD
  refine W.widen (k := 0) (n := 0) (by omega) (by omega) ?_
  obtain rfl : r_3 = 0 := hw
  refine lv_goto (tgt := 28) hx hb dX6_count_20 (by decide) ?_
  have hP9 := hP.sub (ws' := [(h0, .inr (11, [.int 0, .int 0, .int 0, .int 0, .ref rq, .ref sbq]))]) [0] rfl
  have hD9 := hD.sub (ws' := [(h0, .inr (11, [.int 0, .int 0, .int 0, .int 0, .ref rq, .ref sbq]))]) [0] (by decide) rfl
  have hK9 := hK.sub (tys' := []) [] rfl
  exact W.iret (v := 0) hx hb hr (fun t ht hW => ⟨⟨0, (), rfl, rfl, by rw [ht]; exact hP9, va_K.moved hW.alike hK9, hD9⟩, hS.F ht⟩) hS.2.2 dX6_count_28
def v_c_M_count_2 : List Cond := .code yX6_count cX6_count 2 (some .int) :: ([Cond.fieldLink RX6 20 "HotelOfBellsModel" "thrown" "I", Cond.code yX6_isIn cX6_isIn 3 (some .boolean), Cond.methodLink RX6 27 yX6_isIn, Cond.static yX6_isIn, Cond.initialized RX6, Cond.code yX6_counted cX6_counted 5 (some .int), Cond.fieldLink RX6 34 "HotelOfBellsModel" "guests" "I", Cond.methodLink RX6 115 yX6_counted, Cond.instanceMethod yX6_counted, Cond.selects RX6 yX6_counted yX6_counted] ++ (wsX60 ++ []))
theorem u_c_M_count_2_X6 : ∀ w ∈ wsX60, w ∈ v_c_M_count_2 := fun _ h => List.mem_cons_of_mem _ (List.mem_append_right _ (List.mem_append_left _ h))
theorem gg_c_M_count_2_c_isIn_t : GoodIn v_c_M_count_2 v_c_isIn_t := goodIn_r _ [2] (by rfl) (by decide +kernel)
theorem gg_c_M_count_2_c_counted_2 : GoodIn v_c_M_count_2 v_c_counted_2 := goodIn_r _ [6, 7, 11, 12, 13, 14, 15, 16] (by rfl) (by decide +kernel)
set_option maxHeartbeats 4000000 in
set_option maxRecDepth 100000 in
theorem c_M_count_2 (l : Launch) (hl9 : l.stackTraces = false) (dC : Nat → ClassId) (dI : Nat → Nat → Nat) (tE : Nat) (h0 : Nat) (rq : Nat) (sbq : Nat) (th : Int32) (sz : Nat) : Met l yX6_count v_c_M_count_2 ({ frames := 1, cells := 0, slots := 0, locals := 24 }) (va_Pc [.ref h0, .int 2] (Pre0 dC dI tE sz [] [(h0, .inr (11, [.int th, .int 0, .int 0, .int 0, .ref rq, .ref sbq]))])) (va_Qi (fun (r : Int32) (_ : Unit) => r = 0) (fun _ t => Pst dC dI [] (va_A [(h0, .inr (11, [.int th, .int 0, .int 0, .int 0, .ref rq, .ref sbq]))] sz) [(h0, .inr (11, [.int 0, .int 0, .int 0, .int 0, .ref rq, .ref sbq]))] t) (va_A [(h0, .inr (11, [.int th, .int 0, .int 0, .int 0, .ref rq, .ref sbq]))] sz)) 0 0 (va_A [(h0, .inr (11, [.int th, .int 0, .int 0, .int 0, .ref rq, .ref sbq]))] sz) := by
  refine Met.ofW (cc := cX6_count) (maxL := 2) (ret := (some .int)) (by decide) rfl ?_
  intro p e s m args below meth c s₁ B hml hv
  obtain ⟨rfl, hsz, hP, hK, hD0, hT⟩ := hv
  have hx := B.exec
  have hb := B.bytes
  have hr := B.returns
  have hts := atoms_spec (ws := v_c_M_count_2) B.pre
  have hown : s.vm.findClass RX6 = some m.cls := findClass_of_methodNamed B.named
  have hlocks := B.notSynchronized
  subst hsz
  have hD := hD0.self (sz := s.heap.size)
  generalize hAe : va_A [(h0, .inr (11, [.int th, .int 0, .int 0, .int 0, .ref rq, .ref sbq]))] s.heap.size = A at hD hT ⊢
  have hA : ∀ q : Nat, s.heap.size ≤ q → A q := fun q h => by rw [← hAe]; exact Or.inr h
  have hS : va_S A s.heap s.heap [] := va_S.rf
  have hl := lv_entry ([.ref h0, .int 2]) (n := 2) (Nat.le_of_ble_eq_true rfl)
  rw [lg_entry_eq]
  generalize (lg_sl ([.ref h0, .int 2]) ++ List.replicate (2 - (lg_sl ([.ref h0, .int 2])).length) Slot.unset).toArray = ls at hl ⊢
  have hl : lv_has ls 2 [(0, .ref h0), (1, .int 2)] := hl
  refine lv_aload_n hx hb dX6_count_0 rfl (lv_at hl 0 rfl) ?_
  refine lv_iconst (v := 0) hx hb dX6_count_1 (by decide) ?_
  refine va_put (D := (dC, dI)) (ci := 11) (v := .int 0) (ty := .int) (C := RX6) (T := TX6) (N := 6) hx hb hts u_c_M_count_2_X6 tyX6 tyX6_ok nmX6 hown hK hP hD hS 0 rfl rfl 0 (by decide) (hts (.fieldLink RX6 20 "HotelOfBellsModel" "thrown" "I") (List.mem_of_getElem? (i := 1) rfl)) (fun _ h9 => h9) rfl (by decide +kernel) rfl rfl (Nat.le_of_ble_eq_true rfl) dX6_count_2 (fun H locs hP hD hS => ?_)
  have hP : va_P (dC, dI) vwCl [(h0, .inr (11, [.int 0, .int 0, .int 0, .int 0, .ref rq, .ref sbq]))] H := hP
  have hD : va_D A [(h0, .inr (11, [.int 0, .int 0, .int 0, .int 0, .ref rq, .ref sbq]))] := hD
  refine lv_iload_n hx hb dX6_count_5 rfl (lv_at hl 1 rfl) ?_
  refine lv_iconst (v := 0) hx hb dX6_count_6 (by decide) ?_
  refine lv_bipush (v := 7) hx hb dX6_count_7 (by decide) ?_
  have hPc := hP.sub (ws' := []) [] rfl
  have hDc := hD.sub (ws' := []) [] (by decide) rfl
  have hKc := hK.sub (tys' := []) [] rfl
  have hFc := va_free (wc := []) hD hS hA [] rfl
  refine va_calli (va_runS (As := [.int 2, .int 0, .int 7]) (rest := []) ⟨hx, hb, hml, hown, hts⟩ (c_isIn_t l hl9 dC dI tE 2 0 7 _ (by first | assumption | decide | omega) (by first | assumption | decide | omega)) (va_cwS 3 hts (goodIn_app (goodIn_r _ [3, 4, 5] (by rfl) (by decide +kernel)) gg_c_M_count_2_c_isIn_t) rfl rfl rfl (by decide +kernel) ⟨Nat.le_of_ble_eq_true rfl, Nat.le_of_ble_eq_true rfl⟩) ⟨Pre0.blind, Pre0.give hPc hKc hDc hT hS hFc⟩ rfl rfl hl.1 rfl (lv_room (Nat.le_of_ble_eq_true rfl)) dX6_count_9 ⟨Nat.le_of_ble_eq_true rfl, Nat.le_of_ble_eq_true rfl⟩) hS (fun q _ h => hFc q h) hFc (fun r_1 u t H1 locs ht hvm hw hB hz1 hk1 hS => ?_)
  obtain ⟨hP1, hK1, hD1⟩ := hB
  rw [ht] at hP1
  have hK1 := va_K.moved hvm.symm hK1
  obtain ⟨hP, hD⟩ := va_join (wr := [(h0, .inr (11, [.int 0, .int 0, .int 0, .int 0, .ref rq, .ref sbq]))]) (w1 := []) hP hD [] [0] rfl rfl (by decide) (by decide) hk1 hFc hP1 hD1
  generalize H1 = H at hP hS ⊢
  have hP : va_P (dC, dI) vwCl [(h0, .inr (11, [.int 0, .int 0, .int 0, .int 0, .ref rq, .ref sbq]))] H := hP
  have hD : va_D A [(h0, .inr (11, [.int 0, .int 0, .int 0, .int 0, .ref rq, .ref sbq]))] := hD
  refine W.widen (k := 0) (n := 0) (by omega) (by omega) ?_
  obtain rfl : r_1 = 1 := hw
  refine lv_if_eq (tgt := 23) hx hb dX6_count_12 (by decide) (fun c_2 => absurd c_2 (by decide)) (fun _ => ?_)
  refine lv_aload_n hx hb dX6_count_15 rfl (lv_at hl 0 rfl) ?_
  refine lv_iload_n hx hb dX6_count_16 rfl (lv_at hl 1 rfl) ?_
  have hPc := hP.sub (ws' := [(h0, .inr (11, [.int 0, .int 0, .int 0, .int 0, .ref rq, .ref sbq]))]) [0] rfl
  have hDc := hD.sub (ws' := [(h0, .inr (11, [.int 0, .int 0, .int 0, .int 0, .ref rq, .ref sbq]))]) [0] (by decide) rfl
  have hKc := hK.sub (tys' := []) [] rfl
  have hFc := va_free (wc := [(h0, .inr (11, [.int 0, .int 0, .int 0, .int 0, .ref rq, .ref sbq]))]) hD hS hA [0] rfl
  refine va_calli (va_runV (As := [.int 2]) (rest := []) ⟨hx, hb, hml, hown, hts⟩ (c_counted_2 l hl9 dC dI tE h0 rq sbq 0 _ ) (cwV 1 hts (goodIn_app (goodIn_r _ [8, 9, 10, 5] (by rfl) (by decide +kernel)) gg_c_M_count_2_c_counted_2) rfl rfl rfl (by decide +kernel) ⟨Nat.le_of_ble_eq_true rfl, Nat.le_of_ble_eq_true rfl⟩) ⟨Pre0.blind, va_recv hKc hPc (ci := 11) (q0 := 0) rfl rfl, Pre0.give hPc hKc hDc hT hS hFc⟩ rfl rfl hl.1 rfl (lv_room (Nat.le_of_ble_eq_true rfl)) dX6_count_17 ⟨Nat.le_of_ble_eq_true rfl, Nat.le_of_ble_eq_true rfl⟩) hS (fun q _ h => hFc q h) hFc (fun r_3 u t H1 locs ht hvm hw hB hz1 hk1 hS => ?_)
  obtain ⟨hP1, hK1, hD1⟩ := hB
  rw [ht] at hP1
  have hK1 := va_K.moved hvm.symm hK1
  obtain ⟨hP, hD⟩ := va_join (wr := []) (w1 := [(h0, .inr (11, [.int 0, .int 0, .int 0, .int 0, .ref rq, .ref sbq]))]) hP hD [0] [] rfl rfl (by decide) (by decide) hk1 hFc hP1 hD1
  generalize H1 = H at hP hS ⊢
  have hP : va_P (dC, dI) vwCl [(h0, .inr (11, [.int 0, .int 0, .int 0, .int 0, .ref rq, .ref sbq]))] H := hP
  have hD : va_D A [(h0, .inr (11, [.int 0, .int 0, .int 0, .int 0, .ref rq, .ref sbq]))] := hD
  refine W.widen (k := 0) (n := 0) (by omega) (by omega) ?_
  obtain rfl : r_3 = 0 := hw
  refine lv_goto (tgt := 28) hx hb dX6_count_20 (by decide) ?_
  have hP9 := hP.sub (ws' := [(h0, .inr (11, [.int 0, .int 0, .int 0, .int 0, .ref rq, .ref sbq]))]) [0] rfl
  have hD9 := hD.sub (ws' := [(h0, .inr (11, [.int 0, .int 0, .int 0, .int 0, .ref rq, .ref sbq]))]) [0] (by decide) rfl
  have hK9 := hK.sub (tys' := []) [] rfl
  exact W.iret (v := 0) hx hb hr (fun t ht hW => ⟨⟨0, (), rfl, rfl, by rw [ht]; exact hP9, va_K.moved hW.alike hK9, hD9⟩, hS.F ht⟩) hS.2.2 dX6_count_28
def v_c_M_count_3 : List Cond := .code yX6_count cX6_count 2 (some .int) :: ([Cond.fieldLink RX6 20 "HotelOfBellsModel" "thrown" "I", Cond.code yX6_isIn cX6_isIn 3 (some .boolean), Cond.methodLink RX6 27 yX6_isIn, Cond.static yX6_isIn, Cond.initialized RX6, Cond.code yX6_counted cX6_counted 5 (some .int), Cond.fieldLink RX6 34 "HotelOfBellsModel" "guests" "I", Cond.methodLink RX6 115 yX6_counted, Cond.instanceMethod yX6_counted, Cond.selects RX6 yX6_counted yX6_counted] ++ (wsX60 ++ []))
theorem u_c_M_count_3_X6 : ∀ w ∈ wsX60, w ∈ v_c_M_count_3 := fun _ h => List.mem_cons_of_mem _ (List.mem_append_right _ (List.mem_append_left _ h))
theorem gg_c_M_count_3_c_isIn_t : GoodIn v_c_M_count_3 v_c_isIn_t := goodIn_r _ [2] (by rfl) (by decide +kernel)
theorem gg_c_M_count_3_c_counted_3 : GoodIn v_c_M_count_3 v_c_counted_3 := goodIn_r _ [6, 7, 11, 12, 13, 14, 15, 16] (by rfl) (by decide +kernel)
set_option maxHeartbeats 4000000 in
set_option maxRecDepth 100000 in
theorem c_M_count_3 (l : Launch) (hl9 : l.stackTraces = false) (dC : Nat → ClassId) (dI : Nat → Nat → Nat) (tE : Nat) (h0 : Nat) (rq : Nat) (sbq : Nat) (th : Int32) (sz : Nat) : Met l yX6_count v_c_M_count_3 ({ frames := 1, cells := 0, slots := 0, locals := 24 }) (va_Pc [.ref h0, .int 3] (Pre0 dC dI tE sz [] [(h0, .inr (11, [.int th, .int 0, .int 0, .int 0, .ref rq, .ref sbq]))])) (va_Qi (fun (r : Int32) (_ : Unit) => r = 0) (fun _ t => Pst dC dI [] (va_A [(h0, .inr (11, [.int th, .int 0, .int 0, .int 0, .ref rq, .ref sbq]))] sz) [(h0, .inr (11, [.int 0, .int 0, .int 0, .int 0, .ref rq, .ref sbq]))] t) (va_A [(h0, .inr (11, [.int th, .int 0, .int 0, .int 0, .ref rq, .ref sbq]))] sz)) 0 0 (va_A [(h0, .inr (11, [.int th, .int 0, .int 0, .int 0, .ref rq, .ref sbq]))] sz) := by
  refine Met.ofW (cc := cX6_count) (maxL := 2) (ret := (some .int)) (by decide) rfl ?_
  intro p e s m args below meth c s₁ B hml hv
  obtain ⟨rfl, hsz, hP, hK, hD0, hT⟩ := hv
  have hx := B.exec
  have hb := B.bytes
  have hr := B.returns
  have hts := atoms_spec (ws := v_c_M_count_3) B.pre
  have hown : s.vm.findClass RX6 = some m.cls := findClass_of_methodNamed B.named
  have hlocks := B.notSynchronized
  subst hsz
  have hD := hD0.self (sz := s.heap.size)
  generalize hAe : va_A [(h0, .inr (11, [.int th, .int 0, .int 0, .int 0, .ref rq, .ref sbq]))] s.heap.size = A at hD hT ⊢
  have hA : ∀ q : Nat, s.heap.size ≤ q → A q := fun q h => by rw [← hAe]; exact Or.inr h
  have hS : va_S A s.heap s.heap [] := va_S.rf
  have hl := lv_entry ([.ref h0, .int 3]) (n := 2) (Nat.le_of_ble_eq_true rfl)
  rw [lg_entry_eq]
  generalize (lg_sl ([.ref h0, .int 3]) ++ List.replicate (2 - (lg_sl ([.ref h0, .int 3])).length) Slot.unset).toArray = ls at hl ⊢
  have hl : lv_has ls 2 [(0, .ref h0), (1, .int 3)] := hl
  refine lv_aload_n hx hb dX6_count_0 rfl (lv_at hl 0 rfl) ?_
  refine lv_iconst (v := 0) hx hb dX6_count_1 (by decide) ?_
  refine va_put (D := (dC, dI)) (ci := 11) (v := .int 0) (ty := .int) (C := RX6) (T := TX6) (N := 6) hx hb hts u_c_M_count_3_X6 tyX6 tyX6_ok nmX6 hown hK hP hD hS 0 rfl rfl 0 (by decide) (hts (.fieldLink RX6 20 "HotelOfBellsModel" "thrown" "I") (List.mem_of_getElem? (i := 1) rfl)) (fun _ h9 => h9) rfl (by decide +kernel) rfl rfl (Nat.le_of_ble_eq_true rfl) dX6_count_2 (fun H locs hP hD hS => ?_)
  have hP : va_P (dC, dI) vwCl [(h0, .inr (11, [.int 0, .int 0, .int 0, .int 0, .ref rq, .ref sbq]))] H := hP
  have hD : va_D A [(h0, .inr (11, [.int 0, .int 0, .int 0, .int 0, .ref rq, .ref sbq]))] := hD
  refine lv_iload_n hx hb dX6_count_5 rfl (lv_at hl 1 rfl) ?_
  refine lv_iconst (v := 0) hx hb dX6_count_6 (by decide) ?_
  refine lv_bipush (v := 7) hx hb dX6_count_7 (by decide) ?_
  have hPc := hP.sub (ws' := []) [] rfl
  have hDc := hD.sub (ws' := []) [] (by decide) rfl
  have hKc := hK.sub (tys' := []) [] rfl
  have hFc := va_free (wc := []) hD hS hA [] rfl
  refine va_calli (va_runS (As := [.int 3, .int 0, .int 7]) (rest := []) ⟨hx, hb, hml, hown, hts⟩ (c_isIn_t l hl9 dC dI tE 3 0 7 _ (by first | assumption | decide | omega) (by first | assumption | decide | omega)) (va_cwS 3 hts (goodIn_app (goodIn_r _ [3, 4, 5] (by rfl) (by decide +kernel)) gg_c_M_count_3_c_isIn_t) rfl rfl rfl (by decide +kernel) ⟨Nat.le_of_ble_eq_true rfl, Nat.le_of_ble_eq_true rfl⟩) ⟨Pre0.blind, Pre0.give hPc hKc hDc hT hS hFc⟩ rfl rfl hl.1 rfl (lv_room (Nat.le_of_ble_eq_true rfl)) dX6_count_9 ⟨Nat.le_of_ble_eq_true rfl, Nat.le_of_ble_eq_true rfl⟩) hS (fun q _ h => hFc q h) hFc (fun r_1 u t H1 locs ht hvm hw hB hz1 hk1 hS => ?_)
  obtain ⟨hP1, hK1, hD1⟩ := hB
  rw [ht] at hP1
  have hK1 := va_K.moved hvm.symm hK1
  obtain ⟨hP, hD⟩ := va_join (wr := [(h0, .inr (11, [.int 0, .int 0, .int 0, .int 0, .ref rq, .ref sbq]))]) (w1 := []) hP hD [] [0] rfl rfl (by decide) (by decide) hk1 hFc hP1 hD1
  generalize H1 = H at hP hS ⊢
  have hP : va_P (dC, dI) vwCl [(h0, .inr (11, [.int 0, .int 0, .int 0, .int 0, .ref rq, .ref sbq]))] H := hP
  have hD : va_D A [(h0, .inr (11, [.int 0, .int 0, .int 0, .int 0, .ref rq, .ref sbq]))] := hD
  refine W.widen (k := 0) (n := 0) (by omega) (by omega) ?_
  obtain rfl : r_1 = 1 := hw
  refine lv_if_eq (tgt := 23) hx hb dX6_count_12 (by decide) (fun c_2 => absurd c_2 (by decide)) (fun _ => ?_)
  refine lv_aload_n hx hb dX6_count_15 rfl (lv_at hl 0 rfl) ?_
  refine lv_iload_n hx hb dX6_count_16 rfl (lv_at hl 1 rfl) ?_
  have hPc := hP.sub (ws' := [(h0, .inr (11, [.int 0, .int 0, .int 0, .int 0, .ref rq, .ref sbq]))]) [0] rfl
  have hDc := hD.sub (ws' := [(h0, .inr (11, [.int 0, .int 0, .int 0, .int 0, .ref rq, .ref sbq]))]) [0] (by decide) rfl
  have hKc := hK.sub (tys' := []) [] rfl
  have hFc := va_free (wc := [(h0, .inr (11, [.int 0, .int 0, .int 0, .int 0, .ref rq, .ref sbq]))]) hD hS hA [0] rfl
  refine va_calli (va_runV (As := [.int 3]) (rest := []) ⟨hx, hb, hml, hown, hts⟩ (c_counted_3 l hl9 dC dI tE h0 rq sbq 0 _ ) (cwV 1 hts (goodIn_app (goodIn_r _ [8, 9, 10, 5] (by rfl) (by decide +kernel)) gg_c_M_count_3_c_counted_3) rfl rfl rfl (by decide +kernel) ⟨Nat.le_of_ble_eq_true rfl, Nat.le_of_ble_eq_true rfl⟩) ⟨Pre0.blind, va_recv hKc hPc (ci := 11) (q0 := 0) rfl rfl, Pre0.give hPc hKc hDc hT hS hFc⟩ rfl rfl hl.1 rfl (lv_room (Nat.le_of_ble_eq_true rfl)) dX6_count_17 ⟨Nat.le_of_ble_eq_true rfl, Nat.le_of_ble_eq_true rfl⟩) hS (fun q _ h => hFc q h) hFc (fun r_3 u t H1 locs ht hvm hw hB hz1 hk1 hS => ?_)
  obtain ⟨hP1, hK1, hD1⟩ := hB
  rw [ht] at hP1
  have hK1 := va_K.moved hvm.symm hK1
  obtain ⟨hP, hD⟩ := va_join (wr := []) (w1 := [(h0, .inr (11, [.int 0, .int 0, .int 0, .int 0, .ref rq, .ref sbq]))]) hP hD [0] [] rfl rfl (by decide) (by decide) hk1 hFc hP1 hD1
  generalize H1 = H at hP hS ⊢
  have hP : va_P (dC, dI) vwCl [(h0, .inr (11, [.int 0, .int 0, .int 0, .int 0, .ref rq, .ref sbq]))] H := hP
  have hD : va_D A [(h0, .inr (11, [.int 0, .int 0, .int 0, .int 0, .ref rq, .ref sbq]))] := hD
  refine W.widen (k := 0) (n := 0) (by omega) (by omega) ?_
  obtain rfl : r_3 = 0 := hw
  refine lv_goto (tgt := 28) hx hb dX6_count_20 (by decide) ?_
  have hP9 := hP.sub (ws' := [(h0, .inr (11, [.int 0, .int 0, .int 0, .int 0, .ref rq, .ref sbq]))]) [0] rfl
  have hD9 := hD.sub (ws' := [(h0, .inr (11, [.int 0, .int 0, .int 0, .int 0, .ref rq, .ref sbq]))]) [0] (by decide) rfl
  have hK9 := hK.sub (tys' := []) [] rfl
  exact W.iret (v := 0) hx hb hr (fun t ht hW => ⟨⟨0, (), rfl, rfl, by rw [ht]; exact hP9, va_K.moved hW.alike hK9, hD9⟩, hS.F ht⟩) hS.2.2 dX6_count_28
def v_c_M_count_4 : List Cond := .code yX6_count cX6_count 2 (some .int) :: ([Cond.fieldLink RX6 20 "HotelOfBellsModel" "thrown" "I", Cond.code yX6_isIn cX6_isIn 3 (some .boolean), Cond.methodLink RX6 27 yX6_isIn, Cond.static yX6_isIn, Cond.initialized RX6, Cond.code yX6_counted cX6_counted 5 (some .int), Cond.fieldLink RX6 34 "HotelOfBellsModel" "guests" "I", Cond.methodLink RX6 115 yX6_counted, Cond.instanceMethod yX6_counted, Cond.selects RX6 yX6_counted yX6_counted] ++ (wsX60 ++ []))
theorem u_c_M_count_4_X6 : ∀ w ∈ wsX60, w ∈ v_c_M_count_4 := fun _ h => List.mem_cons_of_mem _ (List.mem_append_right _ (List.mem_append_left _ h))
theorem gg_c_M_count_4_c_isIn_t : GoodIn v_c_M_count_4 v_c_isIn_t := goodIn_r _ [2] (by rfl) (by decide +kernel)
theorem gg_c_M_count_4_c_counted_4 : GoodIn v_c_M_count_4 v_c_counted_4 := goodIn_r _ [6, 7, 11, 12, 13, 14, 15, 16] (by rfl) (by decide +kernel)
set_option maxHeartbeats 4000000 in
set_option maxRecDepth 100000 in
theorem c_M_count_4 (l : Launch) (hl9 : l.stackTraces = false) (dC : Nat → ClassId) (dI : Nat → Nat → Nat) (tE : Nat) (h0 : Nat) (rq : Nat) (sbq : Nat) (th : Int32) (sz : Nat) : Met l yX6_count v_c_M_count_4 ({ frames := 1, cells := 0, slots := 0, locals := 24 }) (va_Pc [.ref h0, .int 4] (Pre0 dC dI tE sz [] [(h0, .inr (11, [.int th, .int 0, .int 0, .int 0, .ref rq, .ref sbq]))])) (va_Qi (fun (r : Int32) (_ : Unit) => r = 0) (fun _ t => Pst dC dI [] (va_A [(h0, .inr (11, [.int th, .int 0, .int 0, .int 0, .ref rq, .ref sbq]))] sz) [(h0, .inr (11, [.int 0, .int 0, .int 0, .int 0, .ref rq, .ref sbq]))] t) (va_A [(h0, .inr (11, [.int th, .int 0, .int 0, .int 0, .ref rq, .ref sbq]))] sz)) 0 0 (va_A [(h0, .inr (11, [.int th, .int 0, .int 0, .int 0, .ref rq, .ref sbq]))] sz) := by
  refine Met.ofW (cc := cX6_count) (maxL := 2) (ret := (some .int)) (by decide) rfl ?_
  intro p e s m args below meth c s₁ B hml hv
  obtain ⟨rfl, hsz, hP, hK, hD0, hT⟩ := hv
  have hx := B.exec
  have hb := B.bytes
  have hr := B.returns
  have hts := atoms_spec (ws := v_c_M_count_4) B.pre
  have hown : s.vm.findClass RX6 = some m.cls := findClass_of_methodNamed B.named
  have hlocks := B.notSynchronized
  subst hsz
  have hD := hD0.self (sz := s.heap.size)
  generalize hAe : va_A [(h0, .inr (11, [.int th, .int 0, .int 0, .int 0, .ref rq, .ref sbq]))] s.heap.size = A at hD hT ⊢
  have hA : ∀ q : Nat, s.heap.size ≤ q → A q := fun q h => by rw [← hAe]; exact Or.inr h
  have hS : va_S A s.heap s.heap [] := va_S.rf
  have hl := lv_entry ([.ref h0, .int 4]) (n := 2) (Nat.le_of_ble_eq_true rfl)
  rw [lg_entry_eq]
  generalize (lg_sl ([.ref h0, .int 4]) ++ List.replicate (2 - (lg_sl ([.ref h0, .int 4])).length) Slot.unset).toArray = ls at hl ⊢
  have hl : lv_has ls 2 [(0, .ref h0), (1, .int 4)] := hl
  refine lv_aload_n hx hb dX6_count_0 rfl (lv_at hl 0 rfl) ?_
  refine lv_iconst (v := 0) hx hb dX6_count_1 (by decide) ?_
  refine va_put (D := (dC, dI)) (ci := 11) (v := .int 0) (ty := .int) (C := RX6) (T := TX6) (N := 6) hx hb hts u_c_M_count_4_X6 tyX6 tyX6_ok nmX6 hown hK hP hD hS 0 rfl rfl 0 (by decide) (hts (.fieldLink RX6 20 "HotelOfBellsModel" "thrown" "I") (List.mem_of_getElem? (i := 1) rfl)) (fun _ h9 => h9) rfl (by decide +kernel) rfl rfl (Nat.le_of_ble_eq_true rfl) dX6_count_2 (fun H locs hP hD hS => ?_)
  have hP : va_P (dC, dI) vwCl [(h0, .inr (11, [.int 0, .int 0, .int 0, .int 0, .ref rq, .ref sbq]))] H := hP
  have hD : va_D A [(h0, .inr (11, [.int 0, .int 0, .int 0, .int 0, .ref rq, .ref sbq]))] := hD
  refine lv_iload_n hx hb dX6_count_5 rfl (lv_at hl 1 rfl) ?_
  refine lv_iconst (v := 0) hx hb dX6_count_6 (by decide) ?_
  refine lv_bipush (v := 7) hx hb dX6_count_7 (by decide) ?_
  have hPc := hP.sub (ws' := []) [] rfl
  have hDc := hD.sub (ws' := []) [] (by decide) rfl
  have hKc := hK.sub (tys' := []) [] rfl
  have hFc := va_free (wc := []) hD hS hA [] rfl
  refine va_calli (va_runS (As := [.int 4, .int 0, .int 7]) (rest := []) ⟨hx, hb, hml, hown, hts⟩ (c_isIn_t l hl9 dC dI tE 4 0 7 _ (by first | assumption | decide | omega) (by first | assumption | decide | omega)) (va_cwS 3 hts (goodIn_app (goodIn_r _ [3, 4, 5] (by rfl) (by decide +kernel)) gg_c_M_count_4_c_isIn_t) rfl rfl rfl (by decide +kernel) ⟨Nat.le_of_ble_eq_true rfl, Nat.le_of_ble_eq_true rfl⟩) ⟨Pre0.blind, Pre0.give hPc hKc hDc hT hS hFc⟩ rfl rfl hl.1 rfl (lv_room (Nat.le_of_ble_eq_true rfl)) dX6_count_9 ⟨Nat.le_of_ble_eq_true rfl, Nat.le_of_ble_eq_true rfl⟩) hS (fun q _ h => hFc q h) hFc (fun r_1 u t H1 locs ht hvm hw hB hz1 hk1 hS => ?_)
  obtain ⟨hP1, hK1, hD1⟩ := hB
  rw [ht] at hP1
  have hK1 := va_K.moved hvm.symm hK1
  obtain ⟨hP, hD⟩ := va_join (wr := [(h0, .inr (11, [.int 0, .int 0, .int 0, .int 0, .ref rq, .ref sbq]))]) (w1 := []) hP hD [] [0] rfl rfl (by decide) (by decide) hk1 hFc hP1 hD1
  generalize H1 = H at hP hS ⊢
  have hP : va_P (dC, dI) vwCl [(h0, .inr (11, [.int 0, .int 0, .int 0, .int 0, .ref rq, .ref sbq]))] H := hP
  have hD : va_D A [(h0, .inr (11, [.int 0, .int 0, .int 0, .int 0, .ref rq, .ref sbq]))] := hD
  refine W.widen (k := 0) (n := 0) (by omega) (by omega) ?_
  obtain rfl : r_1 = 1 := hw
  refine lv_if_eq (tgt := 23) hx hb dX6_count_12 (by decide) (fun c_2 => absurd c_2 (by decide)) (fun _ => ?_)
  refine lv_aload_n hx hb dX6_count_15 rfl (lv_at hl 0 rfl) ?_
  refine lv_iload_n hx hb dX6_count_16 rfl (lv_at hl 1 rfl) ?_
  have hPc := hP.sub (ws' := [(h0, .inr (11, [.int 0, .int 0, .int 0, .int 0, .ref rq, .ref sbq]))]) [0] rfl
  have hDc := hD.sub (ws' := [(h0, .inr (11, [.int 0, .int 0, .int 0, .int 0, .ref rq, .ref sbq]))]) [0] (by decide) rfl
  have hKc := hK.sub (tys' := []) [] rfl
  have hFc := va_free (wc := [(h0, .inr (11, [.int 0, .int 0, .int 0, .int 0, .ref rq, .ref sbq]))]) hD hS hA [0] rfl
  refine va_calli (va_runV (As := [.int 4]) (rest := []) ⟨hx, hb, hml, hown, hts⟩ (c_counted_4 l hl9 dC dI tE h0 rq sbq 0 _ ) (cwV 1 hts (goodIn_app (goodIn_r _ [8, 9, 10, 5] (by rfl) (by decide +kernel)) gg_c_M_count_4_c_counted_4) rfl rfl rfl (by decide +kernel) ⟨Nat.le_of_ble_eq_true rfl, Nat.le_of_ble_eq_true rfl⟩) ⟨Pre0.blind, va_recv hKc hPc (ci := 11) (q0 := 0) rfl rfl, Pre0.give hPc hKc hDc hT hS hFc⟩ rfl rfl hl.1 rfl (lv_room (Nat.le_of_ble_eq_true rfl)) dX6_count_17 ⟨Nat.le_of_ble_eq_true rfl, Nat.le_of_ble_eq_true rfl⟩) hS (fun q _ h => hFc q h) hFc (fun r_3 u t H1 locs ht hvm hw hB hz1 hk1 hS => ?_)
  obtain ⟨hP1, hK1, hD1⟩ := hB
  rw [ht] at hP1
  have hK1 := va_K.moved hvm.symm hK1
  obtain ⟨hP, hD⟩ := va_join (wr := []) (w1 := [(h0, .inr (11, [.int 0, .int 0, .int 0, .int 0, .ref rq, .ref sbq]))]) hP hD [0] [] rfl rfl (by decide) (by decide) hk1 hFc hP1 hD1
  generalize H1 = H at hP hS ⊢
  have hP : va_P (dC, dI) vwCl [(h0, .inr (11, [.int 0, .int 0, .int 0, .int 0, .ref rq, .ref sbq]))] H := hP
  have hD : va_D A [(h0, .inr (11, [.int 0, .int 0, .int 0, .int 0, .ref rq, .ref sbq]))] := hD
  refine W.widen (k := 0) (n := 0) (by omega) (by omega) ?_
  obtain rfl : r_3 = 0 := hw
  refine lv_goto (tgt := 28) hx hb dX6_count_20 (by decide) ?_
  have hP9 := hP.sub (ws' := [(h0, .inr (11, [.int 0, .int 0, .int 0, .int 0, .ref rq, .ref sbq]))]) [0] rfl
  have hD9 := hD.sub (ws' := [(h0, .inr (11, [.int 0, .int 0, .int 0, .int 0, .ref rq, .ref sbq]))]) [0] (by decide) rfl
  have hK9 := hK.sub (tys' := []) [] rfl
  exact W.iret (v := 0) hx hb hr (fun t ht hW => ⟨⟨0, (), rfl, rfl, by rw [ht]; exact hP9, va_K.moved hW.alike hK9, hD9⟩, hS.F ht⟩) hS.2.2 dX6_count_28
def v_c_M_count_5 : List Cond := .code yX6_count cX6_count 2 (some .int) :: ([Cond.fieldLink RX6 20 "HotelOfBellsModel" "thrown" "I", Cond.code yX6_isIn cX6_isIn 3 (some .boolean), Cond.methodLink RX6 27 yX6_isIn, Cond.static yX6_isIn, Cond.initialized RX6, Cond.code yX6_counted cX6_counted 5 (some .int), Cond.fieldLink RX6 34 "HotelOfBellsModel" "guests" "I", Cond.fieldLink RX6 9 "HotelOfBellsModel" "row" "[I", Cond.methodLink RX6 115 yX6_counted, Cond.instanceMethod yX6_counted, Cond.selects RX6 yX6_counted yX6_counted] ++ (wsX60 ++ []))
theorem u_c_M_count_5_X6 : ∀ w ∈ wsX60, w ∈ v_c_M_count_5 := fun _ h => List.mem_cons_of_mem _ (List.mem_append_right _ (List.mem_append_left _ h))
theorem gg_c_M_count_5_c_isIn_t : GoodIn v_c_M_count_5 v_c_isIn_t := goodIn_r _ [2] (by rfl) (by decide +kernel)
theorem gg_c_M_count_5_c_counted_5 : GoodIn v_c_M_count_5 v_c_counted_5 := goodIn_r _ [6, 7, 8, 12, 13, 14, 15, 16, 17] (by rfl) (by decide +kernel)
set_option maxHeartbeats 4000000 in
set_option maxRecDepth 100000 in
theorem c_M_count_5 (l : Launch) (hl9 : l.stackTraces = false) (dC : Nat → ClassId) (dI : Nat → Nat → Nat) (tE : Nat) (h0 : Nat) (rq : Nat) (sbq : Nat) (th : Int32) (ci : ClassId) (sz : Nat) : Met l yX6_count v_c_M_count_5 ({ frames := 1, cells := 0, slots := 0, locals := 24 }) (va_Pc [.ref h0, .int 5] (Pre0 dC dI tE sz [(ci, .int)] [(h0, .inr (11, [.int th, .int 0, .int 0, .int 0, .ref rq, .ref sbq])), (rq, .inl (ci, 119, .inl (fun _ => 0)))])) (va_Qi (fun (r : Int32) (_ : Unit) => r = 0) (fun _ t => Pst dC dI [(ci, .int)] (va_A [(h0, .inr (11, [.int th, .int 0, .int 0, .int 0, .ref rq, .ref sbq])), (rq, .inl (ci, 119, .inl (fun _ => 0)))] sz) [(h0, .inr (11, [.int 0, .int 0, .int 0, .int 0, .ref rq, .ref sbq])), (rq, .inl (ci, 119, .inl (fun _ => 0)))] t) (va_A [(h0, .inr (11, [.int th, .int 0, .int 0, .int 0, .ref rq, .ref sbq])), (rq, .inl (ci, 119, .inl (fun _ => 0)))] sz)) 0 0 (va_A [(h0, .inr (11, [.int th, .int 0, .int 0, .int 0, .ref rq, .ref sbq])), (rq, .inl (ci, 119, .inl (fun _ => 0)))] sz) := by
  refine Met.ofW (cc := cX6_count) (maxL := 2) (ret := (some .int)) (by decide) rfl ?_
  intro p e s m args below meth c s₁ B hml hv
  obtain ⟨rfl, hsz, hP, hK, hD0, hT⟩ := hv
  have hx := B.exec
  have hb := B.bytes
  have hr := B.returns
  have hts := atoms_spec (ws := v_c_M_count_5) B.pre
  have hown : s.vm.findClass RX6 = some m.cls := findClass_of_methodNamed B.named
  have hlocks := B.notSynchronized
  subst hsz
  have hD := hD0.self (sz := s.heap.size)
  generalize hAe : va_A [(h0, .inr (11, [.int th, .int 0, .int 0, .int 0, .ref rq, .ref sbq])), (rq, .inl (ci, 119, .inl (fun _ => 0)))] s.heap.size = A at hD hT ⊢
  have hA : ∀ q : Nat, s.heap.size ≤ q → A q := fun q h => by rw [← hAe]; exact Or.inr h
  have hS : va_S A s.heap s.heap [] := va_S.rf
  have hl := lv_entry ([.ref h0, .int 5]) (n := 2) (Nat.le_of_ble_eq_true rfl)
  rw [lg_entry_eq]
  generalize (lg_sl ([.ref h0, .int 5]) ++ List.replicate (2 - (lg_sl ([.ref h0, .int 5])).length) Slot.unset).toArray = ls at hl ⊢
  have hl : lv_has ls 2 [(0, .ref h0), (1, .int 5)] := hl
  refine lv_aload_n hx hb dX6_count_0 rfl (lv_at hl 0 rfl) ?_
  refine lv_iconst (v := 0) hx hb dX6_count_1 (by decide) ?_
  refine va_put (D := (dC, dI)) (ci := 11) (v := .int 0) (ty := .int) (C := RX6) (T := TX6) (N := 6) hx hb hts u_c_M_count_5_X6 tyX6 tyX6_ok nmX6 hown hK hP hD hS 0 rfl rfl 0 (by decide) (hts (.fieldLink RX6 20 "HotelOfBellsModel" "thrown" "I") (List.mem_of_getElem? (i := 1) rfl)) (fun _ h9 => h9) rfl (by decide +kernel) rfl rfl (Nat.le_of_ble_eq_true rfl) dX6_count_2 (fun H locs hP hD hS => ?_)
  have hP : va_P (dC, dI) vwCl [(h0, .inr (11, [.int 0, .int 0, .int 0, .int 0, .ref rq, .ref sbq])), (rq, .inl (ci, 119, .inl (fun _ => 0)))] H := hP
  have hD : va_D A [(h0, .inr (11, [.int 0, .int 0, .int 0, .int 0, .ref rq, .ref sbq])), (rq, .inl (ci, 119, .inl (fun _ => 0)))] := hD
  refine lv_iload_n hx hb dX6_count_5 rfl (lv_at hl 1 rfl) ?_
  refine lv_iconst (v := 0) hx hb dX6_count_6 (by decide) ?_
  refine lv_bipush (v := 7) hx hb dX6_count_7 (by decide) ?_
  have hPc := hP.sub (ws' := []) [] rfl
  have hDc := hD.sub (ws' := []) [] (by decide) rfl
  have hKc := hK.sub (tys' := []) [] rfl
  have hFc := va_free (wc := []) hD hS hA [] rfl
  refine va_calli (va_runS (As := [.int 5, .int 0, .int 7]) (rest := []) ⟨hx, hb, hml, hown, hts⟩ (c_isIn_t l hl9 dC dI tE 5 0 7 _ (by first | assumption | decide | omega) (by first | assumption | decide | omega)) (va_cwS 3 hts (goodIn_app (goodIn_r _ [3, 4, 5] (by rfl) (by decide +kernel)) gg_c_M_count_5_c_isIn_t) rfl rfl rfl (by decide +kernel) ⟨Nat.le_of_ble_eq_true rfl, Nat.le_of_ble_eq_true rfl⟩) ⟨Pre0.blind, Pre0.give hPc hKc hDc hT hS hFc⟩ rfl rfl hl.1 rfl (lv_room (Nat.le_of_ble_eq_true rfl)) dX6_count_9 ⟨Nat.le_of_ble_eq_true rfl, Nat.le_of_ble_eq_true rfl⟩) hS (fun q _ h => hFc q h) hFc (fun r_1 u t H1 locs ht hvm hw hB hz1 hk1 hS => ?_)
  obtain ⟨hP1, hK1, hD1⟩ := hB
  rw [ht] at hP1
  have hK1 := va_K.moved hvm.symm hK1
  obtain ⟨hP, hD⟩ := va_join (wr := [(h0, .inr (11, [.int 0, .int 0, .int 0, .int 0, .ref rq, .ref sbq])), (rq, .inl (ci, 119, .inl (fun _ => 0)))]) (w1 := []) hP hD [] [0, 1] rfl rfl (by decide) (by decide) hk1 hFc hP1 hD1
  generalize H1 = H at hP hS ⊢
  have hP : va_P (dC, dI) vwCl [(h0, .inr (11, [.int 0, .int 0, .int 0, .int 0, .ref rq, .ref sbq])), (rq, .inl (ci, 119, .inl (fun _ => 0)))] H := hP
  have hD : va_D A [(h0, .inr (11, [.int 0, .int 0, .int 0, .int 0, .ref rq, .ref sbq])), (rq, .inl (ci, 119, .inl (fun _ => 0)))] := hD
  refine W.widen (k := 0) (n := 0) (by omega) (by omega) ?_
  obtain rfl : r_1 = 1 := hw
  refine lv_if_eq (tgt := 23) hx hb dX6_count_12 (by decide) (fun c_2 => absurd c_2 (by decide)) (fun _ => ?_)
  refine lv_aload_n hx hb dX6_count_15 rfl (lv_at hl 0 rfl) ?_
  refine lv_iload_n hx hb dX6_count_16 rfl (lv_at hl 1 rfl) ?_
  have hPc := hP.sub (ws' := [(h0, .inr (11, [.int 0, .int 0, .int 0, .int 0, .ref rq, .ref sbq])), (rq, .inl (ci, 119, .inl (fun _ => 0)))]) [0, 1] rfl
  have hDc := hD.sub (ws' := [(h0, .inr (11, [.int 0, .int 0, .int 0, .int 0, .ref rq, .ref sbq])), (rq, .inl (ci, 119, .inl (fun _ => 0)))]) [0, 1] (by decide) rfl
  have hKc := hK.sub (tys' := [(ci, .int)]) [0] rfl
  have hFc := va_free (wc := [(h0, .inr (11, [.int 0, .int 0, .int 0, .int 0, .ref rq, .ref sbq])), (rq, .inl (ci, 119, .inl (fun _ => 0)))]) hD hS hA [0, 1] rfl
  refine va_calli (va_runV (As := [.int 5]) (rest := []) ⟨hx, hb, hml, hown, hts⟩ (c_counted_5 l hl9 dC dI tE h0 rq sbq 0 ci _ ) (cwV 1 hts (goodIn_app (goodIn_r _ [9, 10, 11, 5] (by rfl) (by decide +kernel)) gg_c_M_count_5_c_counted_5) rfl rfl rfl (by decide +kernel) ⟨Nat.le_of_ble_eq_true rfl, Nat.le_of_ble_eq_true rfl⟩) ⟨Pre0.blind, va_recv hKc hPc (ci := 11) (q0 := 0) rfl rfl, Pre0.give hPc hKc hDc hT hS hFc⟩ rfl rfl hl.1 rfl (lv_room (Nat.le_of_ble_eq_true rfl)) dX6_count_17 ⟨Nat.le_of_ble_eq_true rfl, Nat.le_of_ble_eq_true rfl⟩) hS (fun q _ h => hFc q h) hFc (fun r_3 u t H1 locs ht hvm hw hB hz1 hk1 hS => ?_)
  obtain ⟨hP1, hK1, hD1⟩ := hB
  rw [ht] at hP1
  have hK1 := va_K.moved hvm.symm hK1
  obtain ⟨hP, hD⟩ := va_join (wr := []) (w1 := [(h0, .inr (11, [.int 0, .int 0, .int 0, .int 0, .ref rq, .ref sbq])), (rq, .inl (ci, 119, .inl (fun _ => 0)))]) hP hD [0, 1] [] rfl rfl (by decide) (by decide) hk1 hFc hP1 hD1
  generalize H1 = H at hP hS ⊢
  have hP : va_P (dC, dI) vwCl [(h0, .inr (11, [.int 0, .int 0, .int 0, .int 0, .ref rq, .ref sbq])), (rq, .inl (ci, 119, .inl (fun _ => 0)))] H := hP
  have hD : va_D A [(h0, .inr (11, [.int 0, .int 0, .int 0, .int 0, .ref rq, .ref sbq])), (rq, .inl (ci, 119, .inl (fun _ => 0)))] := hD
  refine W.widen (k := 0) (n := 0) (by omega) (by omega) ?_
  obtain rfl : r_3 = 0 := hw
  refine lv_goto (tgt := 28) hx hb dX6_count_20 (by decide) ?_
  have hP9 := hP.sub (ws' := [(h0, .inr (11, [.int 0, .int 0, .int 0, .int 0, .ref rq, .ref sbq])), (rq, .inl (ci, 119, .inl (fun _ => 0)))]) [0, 1] rfl
  have hD9 := hD.sub (ws' := [(h0, .inr (11, [.int 0, .int 0, .int 0, .int 0, .ref rq, .ref sbq])), (rq, .inl (ci, 119, .inl (fun _ => 0)))]) [0, 1] (by decide) rfl
  have hK9 := hK.sub (tys' := [(ci, .int)]) [0] rfl
  exact W.iret (v := 0) hx hb hr (fun t ht hW => ⟨⟨0, (), rfl, rfl, by rw [ht]; exact hP9, va_K.moved hW.alike hK9, hD9⟩, hS.F ht⟩) hS.2.2 dX6_count_28
def v_c_M_count_6 : List Cond := .code yX6_count cX6_count 2 (some .int) :: ([Cond.fieldLink RX6 20 "HotelOfBellsModel" "thrown" "I", Cond.code yX6_isIn cX6_isIn 3 (some .boolean), Cond.methodLink RX6 27 yX6_isIn, Cond.static yX6_isIn, Cond.initialized RX6, Cond.code yX6_counted cX6_counted 5 (some .int), Cond.fieldLink RX6 34 "HotelOfBellsModel" "guests" "I", Cond.fieldLink RX6 9 "HotelOfBellsModel" "row" "[I", Cond.methodLink RX6 115 yX6_counted, Cond.instanceMethod yX6_counted, Cond.selects RX6 yX6_counted yX6_counted] ++ (wsX60 ++ []))
theorem u_c_M_count_6_X6 : ∀ w ∈ wsX60, w ∈ v_c_M_count_6 := fun _ h => List.mem_cons_of_mem _ (List.mem_append_right _ (List.mem_append_left _ h))
theorem gg_c_M_count_6_c_isIn_t : GoodIn v_c_M_count_6 v_c_isIn_t := goodIn_r _ [2] (by rfl) (by decide +kernel)
theorem gg_c_M_count_6_c_counted_6 : GoodIn v_c_M_count_6 v_c_counted_6 := goodIn_r _ [6, 7, 8, 12, 13, 14, 15, 16, 17] (by rfl) (by decide +kernel)
set_option maxHeartbeats 4000000 in
set_option maxRecDepth 100000 in
theorem c_M_count_6 (l : Launch) (hl9 : l.stackTraces = false) (dC : Nat → ClassId) (dI : Nat → Nat → Nat) (tE : Nat) (h0 : Nat) (rq : Nat) (sbq : Nat) (th : Int32) (ci : ClassId) (sz : Nat) : Met l yX6_count v_c_M_count_6 ({ frames := 1, cells := 0, slots := 0, locals := 24 }) (va_Pc [.ref h0, .int 6] (Pre0 dC dI tE sz [(ci, .int)] [(h0, .inr (11, [.int th, .int 0, .int 0, .int 0, .ref rq, .ref sbq])), (rq, .inl (ci, 119, .inl (fun _ => 0)))])) (va_Qi (fun (r : Int32) (_ : Unit) => r = 0) (fun _ t => Pst dC dI [(ci, .int)] (va_A [(h0, .inr (11, [.int th, .int 0, .int 0, .int 0, .ref rq, .ref sbq])), (rq, .inl (ci, 119, .inl (fun _ => 0)))] sz) [(h0, .inr (11, [.int 0, .int 0, .int 0, .int 0, .ref rq, .ref sbq])), (rq, .inl (ci, 119, .inl (fun _ => 0)))] t) (va_A [(h0, .inr (11, [.int th, .int 0, .int 0, .int 0, .ref rq, .ref sbq])), (rq, .inl (ci, 119, .inl (fun _ => 0)))] sz)) 0 0 (va_A [(h0, .inr (11, [.int th, .int 0, .int 0, .int 0, .ref rq, .ref sbq])), (rq, .inl (ci, 119, .inl (fun _ => 0)))] sz) := by
  refine Met.ofW (cc := cX6_count) (maxL := 2) (ret := (some .int)) (by decide) rfl ?_
  intro p e s m args below meth c s₁ B hml hv
  obtain ⟨rfl, hsz, hP, hK, hD0, hT⟩ := hv
  have hx := B.exec
  have hb := B.bytes
  have hr := B.returns
  have hts := atoms_spec (ws := v_c_M_count_6) B.pre
  have hown : s.vm.findClass RX6 = some m.cls := findClass_of_methodNamed B.named
  have hlocks := B.notSynchronized
  subst hsz
  have hD := hD0.self (sz := s.heap.size)
  generalize hAe : va_A [(h0, .inr (11, [.int th, .int 0, .int 0, .int 0, .ref rq, .ref sbq])), (rq, .inl (ci, 119, .inl (fun _ => 0)))] s.heap.size = A at hD hT ⊢
  have hA : ∀ q : Nat, s.heap.size ≤ q → A q := fun q h => by rw [← hAe]; exact Or.inr h
  have hS : va_S A s.heap s.heap [] := va_S.rf
  have hl := lv_entry ([.ref h0, .int 6]) (n := 2) (Nat.le_of_ble_eq_true rfl)
  rw [lg_entry_eq]
  generalize (lg_sl ([.ref h0, .int 6]) ++ List.replicate (2 - (lg_sl ([.ref h0, .int 6])).length) Slot.unset).toArray = ls at hl ⊢
  have hl : lv_has ls 2 [(0, .ref h0), (1, .int 6)] := hl
  refine lv_aload_n hx hb dX6_count_0 rfl (lv_at hl 0 rfl) ?_
  refine lv_iconst (v := 0) hx hb dX6_count_1 (by decide) ?_
  refine va_put (D := (dC, dI)) (ci := 11) (v := .int 0) (ty := .int) (C := RX6) (T := TX6) (N := 6) hx hb hts u_c_M_count_6_X6 tyX6 tyX6_ok nmX6 hown hK hP hD hS 0 rfl rfl 0 (by decide) (hts (.fieldLink RX6 20 "HotelOfBellsModel" "thrown" "I") (List.mem_of_getElem? (i := 1) rfl)) (fun _ h9 => h9) rfl (by decide +kernel) rfl rfl (Nat.le_of_ble_eq_true rfl) dX6_count_2 (fun H locs hP hD hS => ?_)
  have hP : va_P (dC, dI) vwCl [(h0, .inr (11, [.int 0, .int 0, .int 0, .int 0, .ref rq, .ref sbq])), (rq, .inl (ci, 119, .inl (fun _ => 0)))] H := hP
  have hD : va_D A [(h0, .inr (11, [.int 0, .int 0, .int 0, .int 0, .ref rq, .ref sbq])), (rq, .inl (ci, 119, .inl (fun _ => 0)))] := hD
  refine lv_iload_n hx hb dX6_count_5 rfl (lv_at hl 1 rfl) ?_
  refine lv_iconst (v := 0) hx hb dX6_count_6 (by decide) ?_
  refine lv_bipush (v := 7) hx hb dX6_count_7 (by decide) ?_
  have hPc := hP.sub (ws' := []) [] rfl
  have hDc := hD.sub (ws' := []) [] (by decide) rfl
  have hKc := hK.sub (tys' := []) [] rfl
  have hFc := va_free (wc := []) hD hS hA [] rfl
  refine va_calli (va_runS (As := [.int 6, .int 0, .int 7]) (rest := []) ⟨hx, hb, hml, hown, hts⟩ (c_isIn_t l hl9 dC dI tE 6 0 7 _ (by first | assumption | decide | omega) (by first | assumption | decide | omega)) (va_cwS 3 hts (goodIn_app (goodIn_r _ [3, 4, 5] (by rfl) (by decide +kernel)) gg_c_M_count_6_c_isIn_t) rfl rfl rfl (by decide +kernel) ⟨Nat.le_of_ble_eq_true rfl, Nat.le_of_ble_eq_true rfl⟩) ⟨Pre0.blind, Pre0.give hPc hKc hDc hT hS hFc⟩ rfl rfl hl.1 rfl (lv_room (Nat.le_of_ble_eq_true rfl)) dX6_count_9 ⟨Nat.le_of_ble_eq_true rfl, Nat.le_of_ble_eq_true rfl⟩) hS (fun q _ h => hFc q h) hFc (fun r_1 u t H1 locs ht hvm hw hB hz1 hk1 hS => ?_)
  obtain ⟨hP1, hK1, hD1⟩ := hB
  rw [ht] at hP1
  have hK1 := va_K.moved hvm.symm hK1
  obtain ⟨hP, hD⟩ := va_join (wr := [(h0, .inr (11, [.int 0, .int 0, .int 0, .int 0, .ref rq, .ref sbq])), (rq, .inl (ci, 119, .inl (fun _ => 0)))]) (w1 := []) hP hD [] [0, 1] rfl rfl (by decide) (by decide) hk1 hFc hP1 hD1
  generalize H1 = H at hP hS ⊢
  have hP : va_P (dC, dI) vwCl [(h0, .inr (11, [.int 0, .int 0, .int 0, .int 0, .ref rq, .ref sbq])), (rq, .inl (ci, 119, .inl (fun _ => 0)))] H := hP
  have hD : va_D A [(h0, .inr (11, [.int 0, .int 0, .int 0, .int 0, .ref rq, .ref sbq])), (rq, .inl (ci, 119, .inl (fun _ => 0)))] := hD
  refine W.widen (k := 0) (n := 0) (by omega) (by omega) ?_
  obtain rfl : r_1 = 1 := hw
  refine lv_if_eq (tgt := 23) hx hb dX6_count_12 (by decide) (fun c_2 => absurd c_2 (by decide)) (fun _ => ?_)
  refine lv_aload_n hx hb dX6_count_15 rfl (lv_at hl 0 rfl) ?_
  refine lv_iload_n hx hb dX6_count_16 rfl (lv_at hl 1 rfl) ?_
  have hPc := hP.sub (ws' := [(h0, .inr (11, [.int 0, .int 0, .int 0, .int 0, .ref rq, .ref sbq])), (rq, .inl (ci, 119, .inl (fun _ => 0)))]) [0, 1] rfl
  have hDc := hD.sub (ws' := [(h0, .inr (11, [.int 0, .int 0, .int 0, .int 0, .ref rq, .ref sbq])), (rq, .inl (ci, 119, .inl (fun _ => 0)))]) [0, 1] (by decide) rfl
  have hKc := hK.sub (tys' := [(ci, .int)]) [0] rfl
  have hFc := va_free (wc := [(h0, .inr (11, [.int 0, .int 0, .int 0, .int 0, .ref rq, .ref sbq])), (rq, .inl (ci, 119, .inl (fun _ => 0)))]) hD hS hA [0, 1] rfl
  refine va_calli (va_runV (As := [.int 6]) (rest := []) ⟨hx, hb, hml, hown, hts⟩ (c_counted_6 l hl9 dC dI tE h0 rq sbq 0 ci _ ) (cwV 1 hts (goodIn_app (goodIn_r _ [9, 10, 11, 5] (by rfl) (by decide +kernel)) gg_c_M_count_6_c_counted_6) rfl rfl rfl (by decide +kernel) ⟨Nat.le_of_ble_eq_true rfl, Nat.le_of_ble_eq_true rfl⟩) ⟨Pre0.blind, va_recv hKc hPc (ci := 11) (q0 := 0) rfl rfl, Pre0.give hPc hKc hDc hT hS hFc⟩ rfl rfl hl.1 rfl (lv_room (Nat.le_of_ble_eq_true rfl)) dX6_count_17 ⟨Nat.le_of_ble_eq_true rfl, Nat.le_of_ble_eq_true rfl⟩) hS (fun q _ h => hFc q h) hFc (fun r_3 u t H1 locs ht hvm hw hB hz1 hk1 hS => ?_)
  obtain ⟨hP1, hK1, hD1⟩ := hB
  rw [ht] at hP1
  have hK1 := va_K.moved hvm.symm hK1
  obtain ⟨hP, hD⟩ := va_join (wr := []) (w1 := [(h0, .inr (11, [.int 0, .int 0, .int 0, .int 0, .ref rq, .ref sbq])), (rq, .inl (ci, 119, .inl (fun _ => 0)))]) hP hD [0, 1] [] rfl rfl (by decide) (by decide) hk1 hFc hP1 hD1
  generalize H1 = H at hP hS ⊢
  have hP : va_P (dC, dI) vwCl [(h0, .inr (11, [.int 0, .int 0, .int 0, .int 0, .ref rq, .ref sbq])), (rq, .inl (ci, 119, .inl (fun _ => 0)))] H := hP
  have hD : va_D A [(h0, .inr (11, [.int 0, .int 0, .int 0, .int 0, .ref rq, .ref sbq])), (rq, .inl (ci, 119, .inl (fun _ => 0)))] := hD
  refine W.widen (k := 0) (n := 0) (by omega) (by omega) ?_
  obtain rfl : r_3 = 0 := hw
  refine lv_goto (tgt := 28) hx hb dX6_count_20 (by decide) ?_
  have hP9 := hP.sub (ws' := [(h0, .inr (11, [.int 0, .int 0, .int 0, .int 0, .ref rq, .ref sbq])), (rq, .inl (ci, 119, .inl (fun _ => 0)))]) [0, 1] rfl
  have hD9 := hD.sub (ws' := [(h0, .inr (11, [.int 0, .int 0, .int 0, .int 0, .ref rq, .ref sbq])), (rq, .inl (ci, 119, .inl (fun _ => 0)))]) [0, 1] (by decide) rfl
  have hK9 := hK.sub (tys' := [(ci, .int)]) [0] rfl
  exact W.iret (v := 0) hx hb hr (fun t ht hW => ⟨⟨0, (), rfl, rfl, by rw [ht]; exact hP9, va_K.moved hW.alike hK9, hD9⟩, hS.F ht⟩) hS.2.2 dX6_count_28
def v_c_M_count_7 : List Cond := .code yX6_count cX6_count 2 (some .int) :: ([Cond.fieldLink RX6 20 "HotelOfBellsModel" "thrown" "I", Cond.code yX6_isIn cX6_isIn 3 (some .boolean), Cond.methodLink RX6 27 yX6_isIn, Cond.static yX6_isIn, Cond.initialized RX6, Cond.code yX6_counted cX6_counted 5 (some .int), Cond.fieldLink RX6 34 "HotelOfBellsModel" "guests" "I", Cond.fieldLink RX6 16 "HotelOfBellsModel" "paper" "Ljava/lang/StringBuilder;", Cond.code yJ4_length_8abf5 cJ4_length_8abf5 1 (some .int), Cond.code yJ5_length_8abf5 cJ5_length_8abf5 1 (some .int), Cond.fieldLink RJ5 79 "java/lang/AbstractStringBuilder" "count" "I", Cond.methodLink RJ4 343 yJ5_length_8abf5, Cond.sameMethod RJ5 RJ5 "length" "()I", Cond.superclass RJ4 RJ5, Cond.instanceMethod yJ5_length_8abf5, Cond.initialized RJ5, Cond.methodLink RX6 111 yJ4_length_8abf5, Cond.instanceMethod yJ4_length_8abf5, Cond.selects RJ4 yJ4_length_8abf5 yJ4_length_8abf5, Cond.initialized RJ4, Cond.methodLink RX6 115 yX6_counted, Cond.instanceMethod yX6_counted, Cond.selects RX6 yX6_counted yX6_counted] ++ (wsX60 ++ (wsJ40 ++ [])))
theorem u_c_M_count_7_X6 : ∀ w ∈ wsX60, w ∈ v_c_M_count_7 := fun _ h => List.mem_cons_of_mem _ (List.mem_append_right _ (List.mem_append_left _ h))
theorem u_c_M_count_7_J4 : ∀ w ∈ wsJ40, w ∈ v_c_M_count_7 := fun _ h => List.mem_cons_of_mem _ (List.mem_append_right _ (List.mem_append_right _ (List.mem_append_left _ h)))
theorem gg_c_M_count_7_c_isIn_t : GoodIn v_c_M_count_7 v_c_isIn_t := goodIn_r _ [2] (by rfl) (by decide +kernel)
theorem gg_c_M_count_7_c_counted_7 : GoodIn v_c_M_count_7 v_c_counted_7 := goodIn_r _ [6, 7, 8, 9, 10, 11, 12, 13, 14, 15, 16, 17, 18, 19, 20, 24, 25, 26, 27, 28, 29, 30, 31, 32, 33] (by rfl) (by decide +kernel)
set_option maxHeartbeats 4000000 in
set_option maxRecDepth 100000 in
theorem c_M_count_7 (l : Launch) (hl9 : l.stackTraces = false) (dC : Nat → ClassId) (dI : Nat → Nat → Nat) (tE : Nat) (h0 : Nat) (rq : Nat) (sbq : Nat) (th : Int32) (vq : Nat) (sz : Nat) : Met l yX6_count v_c_M_count_7 ({ frames := 3, cells := 0, slots := 0, locals := 64 }) (va_Pc [.ref h0, .int 7] (Pre0 dC dI tE sz [] [(h0, .inr (11, [.int th, .int 0, .int 0, .int 0, .ref rq, .ref sbq])), (sbq, .inr (1, [.ref vq, .int 0, .int 0, .int 0]))])) (va_Qi (fun (r : Int32) (_ : Unit) => r = 0) (fun _ t => Pst dC dI [] (va_A [(h0, .inr (11, [.int th, .int 0, .int 0, .int 0, .ref rq, .ref sbq])), (sbq, .inr (1, [.ref vq, .int 0, .int 0, .int 0]))] sz) [(h0, .inr (11, [.int 0, .int 0, .int 0, .int 0, .ref rq, .ref sbq])), (sbq, .inr (1, [.ref vq, .int 0, .int 0, .int 0]))] t) (va_A [(h0, .inr (11, [.int th, .int 0, .int 0, .int 0, .ref rq, .ref sbq])), (sbq, .inr (1, [.ref vq, .int 0, .int 0, .int 0]))] sz)) 0 0 (va_A [(h0, .inr (11, [.int th, .int 0, .int 0, .int 0, .ref rq, .ref sbq])), (sbq, .inr (1, [.ref vq, .int 0, .int 0, .int 0]))] sz) := by
  refine Met.ofW (cc := cX6_count) (maxL := 2) (ret := (some .int)) (by decide) rfl ?_
  intro p e s m args below meth c s₁ B hml hv
  obtain ⟨rfl, hsz, hP, hK, hD0, hT⟩ := hv
  have hx := B.exec
  have hb := B.bytes
  have hr := B.returns
  have hts := atoms_spec (ws := v_c_M_count_7) B.pre
  have hown : s.vm.findClass RX6 = some m.cls := findClass_of_methodNamed B.named
  have hlocks := B.notSynchronized
  subst hsz
  have hD := hD0.self (sz := s.heap.size)
  generalize hAe : va_A [(h0, .inr (11, [.int th, .int 0, .int 0, .int 0, .ref rq, .ref sbq])), (sbq, .inr (1, [.ref vq, .int 0, .int 0, .int 0]))] s.heap.size = A at hD hT ⊢
  have hA : ∀ q : Nat, s.heap.size ≤ q → A q := fun q h => by rw [← hAe]; exact Or.inr h
  have hS : va_S A s.heap s.heap [] := va_S.rf
  have hl := lv_entry ([.ref h0, .int 7]) (n := 2) (Nat.le_of_ble_eq_true rfl)
  rw [lg_entry_eq]
  generalize (lg_sl ([.ref h0, .int 7]) ++ List.replicate (2 - (lg_sl ([.ref h0, .int 7])).length) Slot.unset).toArray = ls at hl ⊢
  have hl : lv_has ls 2 [(0, .ref h0), (1, .int 7)] := hl
  refine lv_aload_n hx hb dX6_count_0 rfl (lv_at hl 0 rfl) ?_
  refine lv_iconst (v := 0) hx hb dX6_count_1 (by decide) ?_
  refine va_put (D := (dC, dI)) (ci := 11) (v := .int 0) (ty := .int) (C := RX6) (T := TX6) (N := 6) hx hb hts u_c_M_count_7_X6 tyX6 tyX6_ok nmX6 hown hK hP hD hS 0 rfl rfl 0 (by decide) (hts (.fieldLink RX6 20 "HotelOfBellsModel" "thrown" "I") (List.mem_of_getElem? (i := 1) rfl)) (fun _ h9 => h9) rfl (by decide +kernel) rfl rfl (Nat.le_of_ble_eq_true rfl) dX6_count_2 (fun H locs hP hD hS => ?_)
  have hP : va_P (dC, dI) vwCl [(h0, .inr (11, [.int 0, .int 0, .int 0, .int 0, .ref rq, .ref sbq])), (sbq, .inr (1, [.ref vq, .int 0, .int 0, .int 0]))] H := hP
  have hD : va_D A [(h0, .inr (11, [.int 0, .int 0, .int 0, .int 0, .ref rq, .ref sbq])), (sbq, .inr (1, [.ref vq, .int 0, .int 0, .int 0]))] := hD
  refine lv_iload_n hx hb dX6_count_5 rfl (lv_at hl 1 rfl) ?_
  refine lv_iconst (v := 0) hx hb dX6_count_6 (by decide) ?_
  refine lv_bipush (v := 7) hx hb dX6_count_7 (by decide) ?_
  have hPc := hP.sub (ws' := []) [] rfl
  have hDc := hD.sub (ws' := []) [] (by decide) rfl
  have hKc := hK.sub (tys' := []) [] rfl
  have hFc := va_free (wc := []) hD hS hA [] rfl
  refine va_calli (va_runS (As := [.int 7, .int 0, .int 7]) (rest := []) ⟨hx, hb, hml, hown, hts⟩ (c_isIn_t l hl9 dC dI tE 7 0 7 _ (by first | assumption | decide | omega) (by first | assumption | decide | omega)) (va_cwS 3 hts (goodIn_app (goodIn_r _ [3, 4, 5] (by rfl) (by decide +kernel)) gg_c_M_count_7_c_isIn_t) rfl rfl rfl (by decide +kernel) ⟨Nat.le_of_ble_eq_true rfl, Nat.le_of_ble_eq_true rfl⟩) ⟨Pre0.blind, Pre0.give hPc hKc hDc hT hS hFc⟩ rfl rfl hl.1 rfl (lv_room (Nat.le_of_ble_eq_true rfl)) dX6_count_9 ⟨Nat.le_of_ble_eq_true rfl, Nat.le_of_ble_eq_true rfl⟩) hS (fun q _ h => hFc q h) hFc (fun r_1 u t H1 locs ht hvm hw hB hz1 hk1 hS => ?_)
  obtain ⟨hP1, hK1, hD1⟩ := hB
  rw [ht] at hP1
  have hK1 := va_K.moved hvm.symm hK1
  obtain ⟨hP, hD⟩ := va_join (wr := [(h0, .inr (11, [.int 0, .int 0, .int 0, .int 0, .ref rq, .ref sbq])), (sbq, .inr (1, [.ref vq, .int 0, .int 0, .int 0]))]) (w1 := []) hP hD [] [0, 1] rfl rfl (by decide) (by decide) hk1 hFc hP1 hD1
  generalize H1 = H at hP hS ⊢
  have hP : va_P (dC, dI) vwCl [(h0, .inr (11, [.int 0, .int 0, .int 0, .int 0, .ref rq, .ref sbq])), (sbq, .inr (1, [.ref vq, .int 0, .int 0, .int 0]))] H := hP
  have hD : va_D A [(h0, .inr (11, [.int 0, .int 0, .int 0, .int 0, .ref rq, .ref sbq])), (sbq, .inr (1, [.ref vq, .int 0, .int 0, .int 0]))] := hD
  refine W.widen (k := 0) (n := 0) (by omega) (by omega) ?_
  obtain rfl : r_1 = 1 := hw
  refine lv_if_eq (tgt := 23) hx hb dX6_count_12 (by decide) (fun c_2 => absurd c_2 (by decide)) (fun _ => ?_)
  refine lv_aload_n hx hb dX6_count_15 rfl (lv_at hl 0 rfl) ?_
  refine lv_iload_n hx hb dX6_count_16 rfl (lv_at hl 1 rfl) ?_
  have hPc := hP.sub (ws' := [(h0, .inr (11, [.int 0, .int 0, .int 0, .int 0, .ref rq, .ref sbq])), (sbq, .inr (1, [.ref vq, .int 0, .int 0, .int 0]))]) [0, 1] rfl
  have hDc := hD.sub (ws' := [(h0, .inr (11, [.int 0, .int 0, .int 0, .int 0, .ref rq, .ref sbq])), (sbq, .inr (1, [.ref vq, .int 0, .int 0, .int 0]))]) [0, 1] (by decide) rfl
  have hKc := hK.sub (tys' := []) [] rfl
  have hFc := va_free (wc := [(h0, .inr (11, [.int 0, .int 0, .int 0, .int 0, .ref rq, .ref sbq])), (sbq, .inr (1, [.ref vq, .int 0, .int 0, .int 0]))]) hD hS hA [0, 1] rfl
  refine va_calli (va_runV (As := [.int 7]) (rest := []) ⟨hx, hb, hml, hown, hts⟩ (c_counted_7 l hl9 dC dI tE h0 rq sbq 0 vq _ ) (cwV 1 hts (goodIn_app (goodIn_r _ [21, 22, 23, 5] (by rfl) (by decide +kernel)) gg_c_M_count_7_c_counted_7) rfl rfl rfl (by decide +kernel) ⟨Nat.le_of_ble_eq_true rfl, Nat.le_of_ble_eq_true rfl⟩) ⟨Pre0.blind, va_recv hKc hPc (ci := 11) (q0 := 0) rfl rfl, Pre0.give hPc hKc hDc hT hS hFc⟩ rfl rfl hl.1 rfl (lv_room (Nat.le_of_ble_eq_true rfl)) dX6_count_17 ⟨Nat.le_of_ble_eq_true rfl, Nat.le_of_ble_eq_true rfl⟩) hS (fun q _ h => hFc q h) hFc (fun r_3 u t H1 locs ht hvm hw hB hz1 hk1 hS => ?_)
  obtain ⟨hP1, hK1, hD1⟩ := hB
  rw [ht] at hP1
  have hK1 := va_K.moved hvm.symm hK1
  obtain ⟨hP, hD⟩ := va_join (wr := []) (w1 := [(h0, .inr (11, [.int 0, .int 0, .int 0, .int 0, .ref rq, .ref sbq])), (sbq, .inr (1, [.ref vq, .int 0, .int 0, .int 0]))]) hP hD [0, 1] [] rfl rfl (by decide) (by decide) hk1 hFc hP1 hD1
  generalize H1 = H at hP hS ⊢
  have hP : va_P (dC, dI) vwCl [(h0, .inr (11, [.int 0, .int 0, .int 0, .int 0, .ref rq, .ref sbq])), (sbq, .inr (1, [.ref vq, .int 0, .int 0, .int 0]))] H := hP
  have hD : va_D A [(h0, .inr (11, [.int 0, .int 0, .int 0, .int 0, .ref rq, .ref sbq])), (sbq, .inr (1, [.ref vq, .int 0, .int 0, .int 0]))] := hD
  refine W.widen (k := 0) (n := 0) (by omega) (by omega) ?_
  obtain rfl : r_3 = 0 := hw
  refine lv_goto (tgt := 28) hx hb dX6_count_20 (by decide) ?_
  have hP9 := hP.sub (ws' := [(h0, .inr (11, [.int 0, .int 0, .int 0, .int 0, .ref rq, .ref sbq])), (sbq, .inr (1, [.ref vq, .int 0, .int 0, .int 0]))]) [0, 1] rfl
  have hD9 := hD.sub (ws' := [(h0, .inr (11, [.int 0, .int 0, .int 0, .int 0, .ref rq, .ref sbq])), (sbq, .inr (1, [.ref vq, .int 0, .int 0, .int 0]))]) [0, 1] (by decide) rfl
  have hK9 := hK.sub (tys' := []) [] rfl
  exact W.iret (v := 0) hx hb hr (fun t ht hW => ⟨⟨0, (), rfl, rfl, by rw [ht]; exact hP9, va_K.moved hW.alike hK9, hD9⟩, hS.F ht⟩) hS.2.2 dX6_count_28
def v_c_M_count_f : List Cond := .code yX6_count cX6_count 2 (some .int) :: ([Cond.fieldLink RX6 20 "HotelOfBellsModel" "thrown" "I", Cond.code yX6_isIn cX6_isIn 3 (some .boolean), Cond.methodLink RX6 27 yX6_isIn, Cond.static yX6_isIn, Cond.initialized RX6, Cond.code yX6_fail cX6_fail 2 (some .int), Cond.methodLink RX6 45 yX6_fail, Cond.instanceMethod yX6_fail, Cond.selects RX6 yX6_fail yX6_fail] ++ (wsX60 ++ []))
theorem u_c_M_count_f_X6 : ∀ w ∈ wsX60, w ∈ v_c_M_count_f := fun _ h => List.mem_cons_of_mem _ (List.mem_append_right _ (List.mem_append_left _ h))
theorem gg_c_M_count_f_c_isIn_f : GoodIn v_c_M_count_f v_c_isIn_f := goodIn_r _ [2] (by rfl) (by decide +kernel)
theorem gg_c_M_count_f_c_M_fail : GoodIn v_c_M_count_f v_c_M_fail := goodIn_r _ [6, 1, 10, 11, 12, 13, 14, 15] (by rfl) (by decide +kernel)
set_option maxHeartbeats 4000000 in
set_option maxRecDepth 100000 in
theorem c_M_count_f (l : Launch) (hl9 : l.stackTraces = false) (dC : Nat → ClassId) (dI : Nat → Nat → Nat) (tE : Nat) (h0 : Nat) (rq : Nat) (sbq : Nat) (th : Int32) (p0 : Int32) (sz : Nat) (h : p0 < 0 ∨ 7 < p0) : Met l yX6_count v_c_M_count_f ({ frames := 1, cells := 0, slots := 0, locals := 22 }) (va_Pc [.ref h0, .int p0] (Pre0 dC dI tE sz [] [(h0, .inr (11, [.int th, .int 0, .int 0, .int 0, .ref rq, .ref sbq]))])) (va_Qi (fun (r : Int32) (_ : Unit) => r = 0) (fun _ t => Pst dC dI [] (va_A [(h0, .inr (11, [.int th, .int 0, .int 0, .int 0, .ref rq, .ref sbq]))] sz) [(h0, .inr (11, [.int 1, .int 0, .int 0, .int 0, .ref rq, .ref sbq]))] t) (va_A [(h0, .inr (11, [.int th, .int 0, .int 0, .int 0, .ref rq, .ref sbq]))] sz)) 0 0 (va_A [(h0, .inr (11, [.int th, .int 0, .int 0, .int 0, .ref rq, .ref sbq]))] sz) := by
  refine Met.ofW (cc := cX6_count) (maxL := 2) (ret := (some .int)) (by decide) rfl ?_
  intro p e s m args below meth c s₁ B hml hv
  obtain ⟨rfl, hsz, hP, hK, hD0, hT⟩ := hv
  have hx := B.exec
  have hb := B.bytes
  have hr := B.returns
  have hts := atoms_spec (ws := v_c_M_count_f) B.pre
  have hown : s.vm.findClass RX6 = some m.cls := findClass_of_methodNamed B.named
  have hlocks := B.notSynchronized
  subst hsz
  have hD := hD0.self (sz := s.heap.size)
  generalize hAe : va_A [(h0, .inr (11, [.int th, .int 0, .int 0, .int 0, .ref rq, .ref sbq]))] s.heap.size = A at hD hT ⊢
  have hA : ∀ q : Nat, s.heap.size ≤ q → A q := fun q h => by rw [← hAe]; exact Or.inr h
  have hS : va_S A s.heap s.heap [] := va_S.rf
  have hl := lv_entry ([.ref h0, .int p0]) (n := 2) (Nat.le_of_ble_eq_true rfl)
  rw [lg_entry_eq]
  generalize (lg_sl ([.ref h0, .int p0]) ++ List.replicate (2 - (lg_sl ([.ref h0, .int p0])).length) Slot.unset).toArray = ls at hl ⊢
  have hl : lv_has ls 2 [(0, .ref h0), (1, .int p0)] := hl
  refine lv_aload_n hx hb dX6_count_0 rfl (lv_at hl 0 rfl) ?_
  refine lv_iconst (v := 0) hx hb dX6_count_1 (by decide) ?_
  refine va_put (D := (dC, dI)) (ci := 11) (v := .int 0) (ty := .int) (C := RX6) (T := TX6) (N := 6) hx hb hts u_c_M_count_f_X6 tyX6 tyX6_ok nmX6 hown hK hP hD hS 0 rfl rfl 0 (by decide) (hts (.fieldLink RX6 20 "HotelOfBellsModel" "thrown" "I") (List.mem_of_getElem? (i := 1) rfl)) (fun _ h9 => h9) rfl (by decide +kernel) rfl rfl (Nat.le_of_ble_eq_true rfl) dX6_count_2 (fun H locs hP hD hS => ?_)
  have hP : va_P (dC, dI) vwCl [(h0, .inr (11, [.int 0, .int 0, .int 0, .int 0, .ref rq, .ref sbq]))] H := hP
  have hD : va_D A [(h0, .inr (11, [.int 0, .int 0, .int 0, .int 0, .ref rq, .ref sbq]))] := hD
  refine lv_iload_n hx hb dX6_count_5 rfl (lv_at hl 1 rfl) ?_
  refine lv_iconst (v := 0) hx hb dX6_count_6 (by decide) ?_
  refine lv_bipush (v := 7) hx hb dX6_count_7 (by decide) ?_
  have hPc := hP.sub (ws' := []) [] rfl
  have hDc := hD.sub (ws' := []) [] (by decide) rfl
  have hKc := hK.sub (tys' := []) [] rfl
  have hFc := va_free (wc := []) hD hS hA [] rfl
  refine va_calli (va_runS (As := [.int p0, .int 0, .int 7]) (rest := []) ⟨hx, hb, hml, hown, hts⟩ (c_isIn_f l hl9 dC dI tE p0 0 7 _ h) (va_cwS 3 hts (goodIn_app (goodIn_r _ [3, 4, 5] (by rfl) (by decide +kernel)) gg_c_M_count_f_c_isIn_f) rfl rfl rfl (by decide +kernel) ⟨Nat.le_of_ble_eq_true rfl, Nat.le_of_ble_eq_true rfl⟩) ⟨Pre0.blind, Pre0.give hPc hKc hDc hT hS hFc⟩ rfl rfl hl.1 rfl (lv_room (Nat.le_of_ble_eq_true rfl)) dX6_count_9 ⟨Nat.le_of_ble_eq_true rfl, Nat.le_of_ble_eq_true rfl⟩) hS (fun q _ h => hFc q h) hFc (fun r_1 u t H1 locs ht hvm hw hB hz1 hk1 hS => ?_)
  obtain ⟨hP1, hK1, hD1⟩ := hB
  rw [ht] at hP1
  have hK1 := va_K.moved hvm.symm hK1
  obtain ⟨hP, hD⟩ := va_join (wr := [(h0, .inr (11, [.int 0, .int 0, .int 0, .int 0, .ref rq, .ref sbq]))]) (w1 := []) hP hD [] [0] rfl rfl (by decide) (by decide) hk1 hFc hP1 hD1
  generalize H1 = H at hP hS ⊢
  have hP : va_P (dC, dI) vwCl [(h0, .inr (11, [.int 0, .int 0, .int 0, .int 0, .ref rq, .ref sbq]))] H := hP
  have hD : va_D A [(h0, .inr (11, [.int 0, .int 0, .int 0, .int 0, .ref rq, .ref sbq]))] := hD
  refine W.widen (k := 0) (n := 0) (by omega) (by omega) ?_
  obtain rfl : r_1 = 0 := hw
  refine lv_if_eq (tgt := 23) hx hb dX6_count_12 (by decide) (fun _ => ?_) (fun c_2 => absurd (by decide) c_2)
  refine lv_aload_n hx hb dX6_count_23 rfl (lv_at hl 0 rfl) ?_
  refine lv_iconst (v := 1) hx hb dX6_count_24 (by decide) ?_
  have hPc := hP.sub (ws' := [(h0, .inr (11, [.int 0, .int 0, .int 0, .int 0, .ref rq, .ref sbq]))]) [0] rfl
  have hDc := hD.sub (ws' := [(h0, .inr (11, [.int 0, .int 0, .int 0, .int 0, .ref rq, .ref sbq]))]) [0] (by decide) rfl
  have hKc := hK.sub (tys' := []) [] rfl
  have hFc := va_free (wc := [(h0, .inr (11, [.int 0, .int 0, .int 0, .int 0, .ref rq, .ref sbq]))]) hD hS hA [0] rfl
  refine va_calli (va_runV (As := [.int 1]) (rest := []) ⟨hx, hb, hml, hown, hts⟩ (c_M_fail l hl9 dC dI tE h0 rq sbq 0 0 0 0 1 _ ) (cwV 1 hts (goodIn_app (goodIn_r _ [7, 8, 9, 5] (by rfl) (by decide +kernel)) gg_c_M_count_f_c_M_fail) rfl rfl rfl (by decide +kernel) ⟨Nat.le_of_ble_eq_true rfl, Nat.le_of_ble_eq_true rfl⟩) ⟨Pre0.blind, va_recv hKc hPc (ci := 11) (q0 := 0) rfl rfl, Pre0.give hPc hKc hDc hT hS hFc⟩ rfl rfl hl.1 rfl (lv_room (Nat.le_of_ble_eq_true rfl)) dX6_count_25 ⟨Nat.le_of_ble_eq_true rfl, Nat.le_of_ble_eq_true rfl⟩) hS (fun q _ h => hFc q h) hFc (fun r_3 u t H1 locs ht hvm hw hB hz1 hk1 hS => ?_)
  obtain ⟨hP1, hK1, hD1⟩ := hB
  rw [ht] at hP1
  have hK1 := va_K.moved hvm.symm hK1
  obtain ⟨hP, hD⟩ := va_join (wr := []) (w1 := [(h0, .inr (11, [.int 1, .int 0, .int 0, .int 0, .ref rq, .ref sbq]))]) hP hD [0] [] rfl rfl (by decide) (by decide) hk1 hFc hP1 hD1
  generalize H1 = H at hP hS ⊢
  have hP : va_P (dC, dI) vwCl [(h0, .inr (11, [.int 1, .int 0, .int 0, .int 0, .ref rq, .ref sbq]))] H := hP
  have hD : va_D A [(h0, .inr (11, [.int 1, .int 0, .int 0, .int 0, .ref rq, .ref sbq]))] := hD
  refine W.widen (k := 0) (n := 0) (by omega) (by omega) ?_
  obtain rfl : r_3 = 0 := hw
  have hP9 := hP.sub (ws' := [(h0, .inr (11, [.int 1, .int 0, .int 0, .int 0, .ref rq, .ref sbq]))]) [0] rfl
  have hD9 := hD.sub (ws' := [(h0, .inr (11, [.int 1, .int 0, .int 0, .int 0, .ref rq, .ref sbq]))]) [0] (by decide) rfl
  have hK9 := hK.sub (tys' := []) [] rfl
  exact W.iret (v := 0) hx hb hr (fun t ht hW => ⟨⟨0, (), rfl, rfl, by rw [ht]; exact hP9, va_K.moved hW.alike hK9, hD9⟩, hS.F ht⟩) hS.2.2 dX6_count_28
def v_c_power_0 : List Cond := .code yX6_power cX6_power 3 (some .int) :: ([] ++ [])
set_option maxHeartbeats 4000000 in
set_option maxRecDepth 100000 in
theorem c_power_0 (l : Launch) (hl9 : l.stackTraces = false) (dC : Nat → ClassId) (dI : Nat → Nat → Nat) (tE : Nat)  (sz : Nat) : Met l yX6_power v_c_power_0 ({ frames := 0, cells := 0, slots := 0, locals := 0 }) (va_Pc [.int 0] (Pre0 dC dI tE sz [] [])) (va_Qi (fun (r : Int32) (_ : Unit) => r = 1) (fun _ t => Pst dC dI [] (va_A [] sz) [] t) (va_A [] sz)) 0 0 (va_A [] sz) := by
  refine Met.ofW (cc := cX6_power) (maxL := 3) (ret := (some .int)) (by decide) rfl ?_
  intro p e s m args below meth c s₁ B hml hv
  obtain ⟨rfl, hsz, hP, hK, hD0, hT⟩ := hv
  have hx := B.exec
  have hb := B.bytes
  have hr := B.returns
  have hts := atoms_spec (ws := v_c_power_0) B.pre
  have hown : s.vm.findClass RX6 = some m.cls := findClass_of_methodNamed B.named
  have hlocks := B.notSynchronized
  subst hsz
  have hD := hD0.self (sz := s.heap.size)
  generalize hAe : va_A [] s.heap.size = A at hD hT ⊢
  have hA : ∀ q : Nat, s.heap.size ≤ q → A q := fun q h => by rw [← hAe]; exact Or.inr h
  have hS : va_S A s.heap s.heap [] := va_S.rf
  have hl := lv_entry ([.int 0]) (n := 3) (Nat.le_of_ble_eq_true rfl)
  rw [lg_entry_eq]
  generalize (lg_sl ([.int 0]) ++ List.replicate (3 - (lg_sl ([.int 0])).length) Slot.unset).toArray = ls at hl ⊢
  have hl : lv_has ls 3 [(0, .int 0)] := hl
  refine lv_iconst (v := 1) hx hb dX6_power_0 (by decide) ?_
  refine lv_istore_n (lv' := [(1, .int 1), (0, .int 0)]) hx hb dX6_power_1 rfl hl (by decide) rfl (fun ls hl => ?_)
  refine lv_iconst (v := 0) hx hb dX6_power_2 (by decide) ?_
  refine lv_istore_n (lv' := [(2, .int 0), (1, .int 1), (0, .int 0)]) hx hb dX6_power_3 rfl hl (by decide) rfl (fun ls hl => ?_)
  refine lv_iload_n hx hb dX6_power_4 rfl (lv_at hl 0 rfl) ?_
  refine lv_iload_n hx hb dX6_power_5 rfl (lv_at hl 2 rfl) ?_
  refine lv_icmp_ge (tgt := 20) hx hb dX6_power_6 (by decide) (fun _ => ?_) (fun c_1 => absurd (by decide) c_1)
  refine lv_iload_n hx hb dX6_power_20 rfl (lv_at hl 1 rfl) ?_
  have hP9 := hP.sub (ws' := []) [] rfl
  have hD9 := hD.sub (ws' := []) [] (by decide) rfl
  have hK9 := hK.sub (tys' := []) [] rfl
  exact W.iret (v := 1) hx hb hr (fun t ht hW => ⟨⟨1, (), rfl, rfl, by rw [ht]; exact hP9, va_K.moved hW.alike hK9, hD9⟩, hS.F ht⟩) hS.2.2 dX6_power_21
def v_c_power_1 : List Cond := .code yX6_power cX6_power 3 (some .int) :: ([] ++ [])
set_option maxHeartbeats 4000000 in
set_option maxRecDepth 100000 in
theorem c_power_1 (l : Launch) (hl9 : l.stackTraces = false) (dC : Nat → ClassId) (dI : Nat → Nat → Nat) (tE : Nat)  (sz : Nat) : Met l yX6_power v_c_power_1 ({ frames := 0, cells := 0, slots := 0, locals := 0 }) (va_Pc [.int 1] (Pre0 dC dI tE sz [] [])) (va_Qi (fun (r : Int32) (_ : Unit) => r = 10) (fun _ t => Pst dC dI [] (va_A [] sz) [] t) (va_A [] sz)) 0 0 (va_A [] sz) := by
  refine Met.ofW (cc := cX6_power) (maxL := 3) (ret := (some .int)) (by decide) rfl ?_
  intro p e s m args below meth c s₁ B hml hv
  obtain ⟨rfl, hsz, hP, hK, hD0, hT⟩ := hv
  have hx := B.exec
  have hb := B.bytes
  have hr := B.returns
  have hts := atoms_spec (ws := v_c_power_1) B.pre
  have hown : s.vm.findClass RX6 = some m.cls := findClass_of_methodNamed B.named
  have hlocks := B.notSynchronized
  subst hsz
  have hD := hD0.self (sz := s.heap.size)
  generalize hAe : va_A [] s.heap.size = A at hD hT ⊢
  have hA : ∀ q : Nat, s.heap.size ≤ q → A q := fun q h => by rw [← hAe]; exact Or.inr h
  have hS : va_S A s.heap s.heap [] := va_S.rf
  have hl := lv_entry ([.int 1]) (n := 3) (Nat.le_of_ble_eq_true rfl)
  rw [lg_entry_eq]
  generalize (lg_sl ([.int 1]) ++ List.replicate (3 - (lg_sl ([.int 1])).length) Slot.unset).toArray = ls at hl ⊢
  have hl : lv_has ls 3 [(0, .int 1)] := hl
  refine lv_iconst (v := 1) hx hb dX6_power_0 (by decide) ?_
  refine lv_istore_n (lv' := [(1, .int 1), (0, .int 1)]) hx hb dX6_power_1 rfl hl (by decide) rfl (fun ls hl => ?_)
  refine lv_iconst (v := 0) hx hb dX6_power_2 (by decide) ?_
  refine lv_istore_n (lv' := [(2, .int 0), (1, .int 1), (0, .int 1)]) hx hb dX6_power_3 rfl hl (by decide) rfl (fun ls hl => ?_)
  refine lv_iload_n hx hb dX6_power_4 rfl (lv_at hl 0 rfl) ?_
  refine lv_iload_n hx hb dX6_power_5 rfl (lv_at hl 2 rfl) ?_
  refine lv_icmp_ge (tgt := 20) hx hb dX6_power_6 (by decide) (fun c_1 => absurd c_1 (by decide)) (fun _ => ?_)
  refine lv_iload_n hx hb dX6_power_9 rfl (lv_at hl 1 rfl) ?_
  refine lv_bipush (v := 10) hx hb dX6_power_10 (by decide) ?_
  refine lv_imul hx hb dX6_power_12 ?_
  refine lv_topi (fun x_2 e_3 => ?_)
  obtain rfl : x_2 = 10 := e_3.trans (by decide)
  refine lv_istore_n (lv' := [(1, .int 10), (2, .int 0), (0, .int 1)]) hx hb dX6_power_13 rfl hl (by decide) rfl (fun ls hl => ?_)
  refine lv_iinc (v := 1) (lv' := [(2, .int 1), (1, .int 10), (0, .int 1)]) hx hb dX6_power_14 hl (k := 1) rfl (by decide) (by decide) rfl (fun ls hl => ?_)
  refine lv_goto (tgt := 4) hx hb dX6_power_17 (by decide) ?_
  refine lv_iload_n hx hb dX6_power_4 rfl (lv_at hl 0 rfl) ?_
  refine lv_iload_n hx hb dX6_power_5 rfl (lv_at hl 2 rfl) ?_
  refine lv_icmp_ge (tgt := 20) hx hb dX6_power_6 (by decide) (fun _ => ?_) (fun c_4 => absurd (by decide) c_4)
  refine lv_iload_n hx hb dX6_power_20 rfl (lv_at hl 1 rfl) ?_
  have hP9 := hP.sub (ws' := []) [] rfl
  have hD9 := hD.sub (ws' := []) [] (by decide) rfl
  have hK9 := hK.sub (tys' := []) [] rfl
  exact W.iret (v := 10) hx hb hr (fun t ht hW => ⟨⟨10, (), rfl, rfl, by rw [ht]; exact hP9, va_K.moved hW.alike hK9, hD9⟩, hS.F ht⟩) hS.2.2 dX6_power_21
def v_c_power_2 : List Cond := .code yX6_power cX6_power 3 (some .int) :: ([] ++ [])
set_option maxHeartbeats 4000000 in
set_option maxRecDepth 100000 in
theorem c_power_2 (l : Launch) (hl9 : l.stackTraces = false) (dC : Nat → ClassId) (dI : Nat → Nat → Nat) (tE : Nat)  (sz : Nat) : Met l yX6_power v_c_power_2 ({ frames := 0, cells := 0, slots := 0, locals := 0 }) (va_Pc [.int 2] (Pre0 dC dI tE sz [] [])) (va_Qi (fun (r : Int32) (_ : Unit) => r = 100) (fun _ t => Pst dC dI [] (va_A [] sz) [] t) (va_A [] sz)) 0 0 (va_A [] sz) := by
  refine Met.ofW (cc := cX6_power) (maxL := 3) (ret := (some .int)) (by decide) rfl ?_
  intro p e s m args below meth c s₁ B hml hv
  obtain ⟨rfl, hsz, hP, hK, hD0, hT⟩ := hv
  have hx := B.exec
  have hb := B.bytes
  have hr := B.returns
  have hts := atoms_spec (ws := v_c_power_2) B.pre
  have hown : s.vm.findClass RX6 = some m.cls := findClass_of_methodNamed B.named
  have hlocks := B.notSynchronized
  subst hsz
  have hD := hD0.self (sz := s.heap.size)
  generalize hAe : va_A [] s.heap.size = A at hD hT ⊢
  have hA : ∀ q : Nat, s.heap.size ≤ q → A q := fun q h => by rw [← hAe]; exact Or.inr h
  have hS : va_S A s.heap s.heap [] := va_S.rf
  have hl := lv_entry ([.int 2]) (n := 3) (Nat.le_of_ble_eq_true rfl)
  rw [lg_entry_eq]
  generalize (lg_sl ([.int 2]) ++ List.replicate (3 - (lg_sl ([.int 2])).length) Slot.unset).toArray = ls at hl ⊢
  have hl : lv_has ls 3 [(0, .int 2)] := hl
  refine lv_iconst (v := 1) hx hb dX6_power_0 (by decide) ?_
  refine lv_istore_n (lv' := [(1, .int 1), (0, .int 2)]) hx hb dX6_power_1 rfl hl (by decide) rfl (fun ls hl => ?_)
  refine lv_iconst (v := 0) hx hb dX6_power_2 (by decide) ?_
  refine lv_istore_n (lv' := [(2, .int 0), (1, .int 1), (0, .int 2)]) hx hb dX6_power_3 rfl hl (by decide) rfl (fun ls hl => ?_)
  refine lv_iload_n hx hb dX6_power_4 rfl (lv_at hl 0 rfl) ?_
  refine lv_iload_n hx hb dX6_power_5 rfl (lv_at hl 2 rfl) ?_
  refine lv_icmp_ge (tgt := 20) hx hb dX6_power_6 (by decide) (fun c_1 => absurd c_1 (by decide)) (fun _ => ?_)
  refine lv_iload_n hx hb dX6_power_9 rfl (lv_at hl 1 rfl) ?_
  refine lv_bipush (v := 10) hx hb dX6_power_10 (by decide) ?_
  refine lv_imul hx hb dX6_power_12 ?_
  refine lv_topi (fun x_2 e_3 => ?_)
  obtain rfl : x_2 = 10 := e_3.trans (by decide)
  refine lv_istore_n (lv' := [(1, .int 10), (2, .int 0), (0, .int 2)]) hx hb dX6_power_13 rfl hl (by decide) rfl (fun ls hl => ?_)
  refine lv_iinc (v := 1) (lv' := [(2, .int 1), (1, .int 10), (0, .int 2)]) hx hb dX6_power_14 hl (k := 1) rfl (by decide) (by decide) rfl (fun ls hl => ?_)
  refine lv_goto (tgt := 4) hx hb dX6_power_17 (by decide) ?_
  refine lv_iload_n hx hb dX6_power_4 rfl (lv_at hl 0 rfl) ?_
  refine lv_iload_n hx hb dX6_power_5 rfl (lv_at hl 2 rfl) ?_
  refine lv_icmp_ge (tgt := 20) hx hb dX6_power_6 (by decide) (fun c_4 => absurd c_4 (by decide)) (fun _ => ?_)
  refine lv_iload_n hx hb dX6_power_9 rfl (lv_at hl 1 rfl) ?_
  refine lv_bipush (v := 10) hx hb dX6_power_10 (by decide) ?_
  refine lv_imul hx hb dX6_power_12 ?_
  refine lv_topi (fun x_5 e_6 => ?_)
  obtain rfl : x_5 = 100 := e_6.trans (by decide)
  refine lv_istore_n (lv' := [(1, .int 100), (2, .int 1), (0, .int 2)]) hx hb dX6_power_13 rfl hl (by decide) rfl (fun ls hl => ?_)
  refine lv_iinc (v := 2) (lv' := [(2, .int 2), (1, .int 100), (0, .int 2)]) hx hb dX6_power_14 hl (k := 1) rfl (by decide) (by decide) rfl (fun ls hl => ?_)
  refine lv_goto (tgt := 4) hx hb dX6_power_17 (by decide) ?_
  refine lv_iload_n hx hb dX6_power_4 rfl (lv_at hl 0 rfl) ?_
  refine lv_iload_n hx hb dX6_power_5 rfl (lv_at hl 2 rfl) ?_
  refine lv_icmp_ge (tgt := 20) hx hb dX6_power_6 (by decide) (fun _ => ?_) (fun c_7 => absurd (by decide) c_7)
  refine lv_iload_n hx hb dX6_power_20 rfl (lv_at hl 1 rfl) ?_
  have hP9 := hP.sub (ws' := []) [] rfl
  have hD9 := hD.sub (ws' := []) [] (by decide) rfl
  have hK9 := hK.sub (tys' := []) [] rfl
  exact W.iret (v := 100) hx hb hr (fun t ht hW => ⟨⟨100, (), rfl, rfl, by rw [ht]; exact hP9, va_K.moved hW.alike hK9, hD9⟩, hS.F ht⟩) hS.2.2 dX6_power_21
def v_c_power_3 : List Cond := .code yX6_power cX6_power 3 (some .int) :: ([] ++ [])
set_option maxHeartbeats 4000000 in
set_option maxRecDepth 100000 in
theorem c_power_3 (l : Launch) (hl9 : l.stackTraces = false) (dC : Nat → ClassId) (dI : Nat → Nat → Nat) (tE : Nat)  (sz : Nat) : Met l yX6_power v_c_power_3 ({ frames := 0, cells := 0, slots := 0, locals := 0 }) (va_Pc [.int 3] (Pre0 dC dI tE sz [] [])) (va_Qi (fun (r : Int32) (_ : Unit) => r = 1000) (fun _ t => Pst dC dI [] (va_A [] sz) [] t) (va_A [] sz)) 0 0 (va_A [] sz) := by
  refine Met.ofW (cc := cX6_power) (maxL := 3) (ret := (some .int)) (by decide) rfl ?_
  intro p e s m args below meth c s₁ B hml hv
  obtain ⟨rfl, hsz, hP, hK, hD0, hT⟩ := hv
  have hx := B.exec
  have hb := B.bytes
  have hr := B.returns
  have hts := atoms_spec (ws := v_c_power_3) B.pre
  have hown : s.vm.findClass RX6 = some m.cls := findClass_of_methodNamed B.named
  have hlocks := B.notSynchronized
  subst hsz
  have hD := hD0.self (sz := s.heap.size)
  generalize hAe : va_A [] s.heap.size = A at hD hT ⊢
  have hA : ∀ q : Nat, s.heap.size ≤ q → A q := fun q h => by rw [← hAe]; exact Or.inr h
  have hS : va_S A s.heap s.heap [] := va_S.rf
  have hl := lv_entry ([.int 3]) (n := 3) (Nat.le_of_ble_eq_true rfl)
  rw [lg_entry_eq]
  generalize (lg_sl ([.int 3]) ++ List.replicate (3 - (lg_sl ([.int 3])).length) Slot.unset).toArray = ls at hl ⊢
  have hl : lv_has ls 3 [(0, .int 3)] := hl
  refine lv_iconst (v := 1) hx hb dX6_power_0 (by decide) ?_
  refine lv_istore_n (lv' := [(1, .int 1), (0, .int 3)]) hx hb dX6_power_1 rfl hl (by decide) rfl (fun ls hl => ?_)
  refine lv_iconst (v := 0) hx hb dX6_power_2 (by decide) ?_
  refine lv_istore_n (lv' := [(2, .int 0), (1, .int 1), (0, .int 3)]) hx hb dX6_power_3 rfl hl (by decide) rfl (fun ls hl => ?_)
  refine lv_iload_n hx hb dX6_power_4 rfl (lv_at hl 0 rfl) ?_
  refine lv_iload_n hx hb dX6_power_5 rfl (lv_at hl 2 rfl) ?_
  refine lv_icmp_ge (tgt := 20) hx hb dX6_power_6 (by decide) (fun c_1 => absurd c_1 (by decide)) (fun _ => ?_)
  refine lv_iload_n hx hb dX6_power_9 rfl (lv_at hl 1 rfl) ?_
  refine lv_bipush (v := 10) hx hb dX6_power_10 (by decide) ?_
  refine lv_imul hx hb dX6_power_12 ?_
  refine lv_topi (fun x_2 e_3 => ?_)
  obtain rfl : x_2 = 10 := e_3.trans (by decide)
  refine lv_istore_n (lv' := [(1, .int 10), (2, .int 0), (0, .int 3)]) hx hb dX6_power_13 rfl hl (by decide) rfl (fun ls hl => ?_)
  refine lv_iinc (v := 1) (lv' := [(2, .int 1), (1, .int 10), (0, .int 3)]) hx hb dX6_power_14 hl (k := 1) rfl (by decide) (by decide) rfl (fun ls hl => ?_)
  refine lv_goto (tgt := 4) hx hb dX6_power_17 (by decide) ?_
  refine lv_iload_n hx hb dX6_power_4 rfl (lv_at hl 0 rfl) ?_
  refine lv_iload_n hx hb dX6_power_5 rfl (lv_at hl 2 rfl) ?_
  refine lv_icmp_ge (tgt := 20) hx hb dX6_power_6 (by decide) (fun c_4 => absurd c_4 (by decide)) (fun _ => ?_)
  refine lv_iload_n hx hb dX6_power_9 rfl (lv_at hl 1 rfl) ?_
  refine lv_bipush (v := 10) hx hb dX6_power_10 (by decide) ?_
  refine lv_imul hx hb dX6_power_12 ?_
  refine lv_topi (fun x_5 e_6 => ?_)
  obtain rfl : x_5 = 100 := e_6.trans (by decide)
  refine lv_istore_n (lv' := [(1, .int 100), (2, .int 1), (0, .int 3)]) hx hb dX6_power_13 rfl hl (by decide) rfl (fun ls hl => ?_)
  refine lv_iinc (v := 2) (lv' := [(2, .int 2), (1, .int 100), (0, .int 3)]) hx hb dX6_power_14 hl (k := 1) rfl (by decide) (by decide) rfl (fun ls hl => ?_)
  refine lv_goto (tgt := 4) hx hb dX6_power_17 (by decide) ?_
  refine lv_iload_n hx hb dX6_power_4 rfl (lv_at hl 0 rfl) ?_
  refine lv_iload_n hx hb dX6_power_5 rfl (lv_at hl 2 rfl) ?_
  refine lv_icmp_ge (tgt := 20) hx hb dX6_power_6 (by decide) (fun c_7 => absurd c_7 (by decide)) (fun _ => ?_)
  refine lv_iload_n hx hb dX6_power_9 rfl (lv_at hl 1 rfl) ?_
  refine lv_bipush (v := 10) hx hb dX6_power_10 (by decide) ?_
  refine lv_imul hx hb dX6_power_12 ?_
  refine lv_topi (fun x_8 e_9 => ?_)
  obtain rfl : x_8 = 1000 := e_9.trans (by decide)
  refine lv_istore_n (lv' := [(1, .int 1000), (2, .int 2), (0, .int 3)]) hx hb dX6_power_13 rfl hl (by decide) rfl (fun ls hl => ?_)
  refine lv_iinc (v := 3) (lv' := [(2, .int 3), (1, .int 1000), (0, .int 3)]) hx hb dX6_power_14 hl (k := 1) rfl (by decide) (by decide) rfl (fun ls hl => ?_)
  refine lv_goto (tgt := 4) hx hb dX6_power_17 (by decide) ?_
  refine lv_iload_n hx hb dX6_power_4 rfl (lv_at hl 0 rfl) ?_
  refine lv_iload_n hx hb dX6_power_5 rfl (lv_at hl 2 rfl) ?_
  refine lv_icmp_ge (tgt := 20) hx hb dX6_power_6 (by decide) (fun _ => ?_) (fun c_10 => absurd (by decide) c_10)
  refine lv_iload_n hx hb dX6_power_20 rfl (lv_at hl 1 rfl) ?_
  have hP9 := hP.sub (ws' := []) [] rfl
  have hD9 := hD.sub (ws' := []) [] (by decide) rfl
  have hK9 := hK.sub (tys' := []) [] rfl
  exact W.iret (v := 1000) hx hb hr (fun t ht hW => ⟨⟨1000, (), rfl, rfl, by rw [ht]; exact hP9, va_K.moved hW.alike hK9, hD9⟩, hS.F ht⟩) hS.2.2 dX6_power_21
def v_c_power_4 : List Cond := .code yX6_power cX6_power 3 (some .int) :: ([] ++ [])
set_option maxHeartbeats 4000000 in
set_option maxRecDepth 100000 in
theorem c_power_4 (l : Launch) (hl9 : l.stackTraces = false) (dC : Nat → ClassId) (dI : Nat → Nat → Nat) (tE : Nat)  (sz : Nat) : Met l yX6_power v_c_power_4 ({ frames := 0, cells := 0, slots := 0, locals := 0 }) (va_Pc [.int 4] (Pre0 dC dI tE sz [] [])) (va_Qi (fun (r : Int32) (_ : Unit) => r = 10000) (fun _ t => Pst dC dI [] (va_A [] sz) [] t) (va_A [] sz)) 0 0 (va_A [] sz) := by
  refine Met.ofW (cc := cX6_power) (maxL := 3) (ret := (some .int)) (by decide) rfl ?_
  intro p e s m args below meth c s₁ B hml hv
  obtain ⟨rfl, hsz, hP, hK, hD0, hT⟩ := hv
  have hx := B.exec
  have hb := B.bytes
  have hr := B.returns
  have hts := atoms_spec (ws := v_c_power_4) B.pre
  have hown : s.vm.findClass RX6 = some m.cls := findClass_of_methodNamed B.named
  have hlocks := B.notSynchronized
  subst hsz
  have hD := hD0.self (sz := s.heap.size)
  generalize hAe : va_A [] s.heap.size = A at hD hT ⊢
  have hA : ∀ q : Nat, s.heap.size ≤ q → A q := fun q h => by rw [← hAe]; exact Or.inr h
  have hS : va_S A s.heap s.heap [] := va_S.rf
  have hl := lv_entry ([.int 4]) (n := 3) (Nat.le_of_ble_eq_true rfl)
  rw [lg_entry_eq]
  generalize (lg_sl ([.int 4]) ++ List.replicate (3 - (lg_sl ([.int 4])).length) Slot.unset).toArray = ls at hl ⊢
  have hl : lv_has ls 3 [(0, .int 4)] := hl
  refine lv_iconst (v := 1) hx hb dX6_power_0 (by decide) ?_
  refine lv_istore_n (lv' := [(1, .int 1), (0, .int 4)]) hx hb dX6_power_1 rfl hl (by decide) rfl (fun ls hl => ?_)
  refine lv_iconst (v := 0) hx hb dX6_power_2 (by decide) ?_
  refine lv_istore_n (lv' := [(2, .int 0), (1, .int 1), (0, .int 4)]) hx hb dX6_power_3 rfl hl (by decide) rfl (fun ls hl => ?_)
  refine lv_iload_n hx hb dX6_power_4 rfl (lv_at hl 0 rfl) ?_
  refine lv_iload_n hx hb dX6_power_5 rfl (lv_at hl 2 rfl) ?_
  refine lv_icmp_ge (tgt := 20) hx hb dX6_power_6 (by decide) (fun c_1 => absurd c_1 (by decide)) (fun _ => ?_)
  refine lv_iload_n hx hb dX6_power_9 rfl (lv_at hl 1 rfl) ?_
  refine lv_bipush (v := 10) hx hb dX6_power_10 (by decide) ?_
  refine lv_imul hx hb dX6_power_12 ?_
  refine lv_topi (fun x_2 e_3 => ?_)
  obtain rfl : x_2 = 10 := e_3.trans (by decide)
  refine lv_istore_n (lv' := [(1, .int 10), (2, .int 0), (0, .int 4)]) hx hb dX6_power_13 rfl hl (by decide) rfl (fun ls hl => ?_)
  refine lv_iinc (v := 1) (lv' := [(2, .int 1), (1, .int 10), (0, .int 4)]) hx hb dX6_power_14 hl (k := 1) rfl (by decide) (by decide) rfl (fun ls hl => ?_)
  refine lv_goto (tgt := 4) hx hb dX6_power_17 (by decide) ?_
  refine lv_iload_n hx hb dX6_power_4 rfl (lv_at hl 0 rfl) ?_
  refine lv_iload_n hx hb dX6_power_5 rfl (lv_at hl 2 rfl) ?_
  refine lv_icmp_ge (tgt := 20) hx hb dX6_power_6 (by decide) (fun c_4 => absurd c_4 (by decide)) (fun _ => ?_)
  refine lv_iload_n hx hb dX6_power_9 rfl (lv_at hl 1 rfl) ?_
  refine lv_bipush (v := 10) hx hb dX6_power_10 (by decide) ?_
  refine lv_imul hx hb dX6_power_12 ?_
  refine lv_topi (fun x_5 e_6 => ?_)
  obtain rfl : x_5 = 100 := e_6.trans (by decide)
  refine lv_istore_n (lv' := [(1, .int 100), (2, .int 1), (0, .int 4)]) hx hb dX6_power_13 rfl hl (by decide) rfl (fun ls hl => ?_)
  refine lv_iinc (v := 2) (lv' := [(2, .int 2), (1, .int 100), (0, .int 4)]) hx hb dX6_power_14 hl (k := 1) rfl (by decide) (by decide) rfl (fun ls hl => ?_)
  refine lv_goto (tgt := 4) hx hb dX6_power_17 (by decide) ?_
  refine lv_iload_n hx hb dX6_power_4 rfl (lv_at hl 0 rfl) ?_
  refine lv_iload_n hx hb dX6_power_5 rfl (lv_at hl 2 rfl) ?_
  refine lv_icmp_ge (tgt := 20) hx hb dX6_power_6 (by decide) (fun c_7 => absurd c_7 (by decide)) (fun _ => ?_)
  refine lv_iload_n hx hb dX6_power_9 rfl (lv_at hl 1 rfl) ?_
  refine lv_bipush (v := 10) hx hb dX6_power_10 (by decide) ?_
  refine lv_imul hx hb dX6_power_12 ?_
  refine lv_topi (fun x_8 e_9 => ?_)
  obtain rfl : x_8 = 1000 := e_9.trans (by decide)
  refine lv_istore_n (lv' := [(1, .int 1000), (2, .int 2), (0, .int 4)]) hx hb dX6_power_13 rfl hl (by decide) rfl (fun ls hl => ?_)
  refine lv_iinc (v := 3) (lv' := [(2, .int 3), (1, .int 1000), (0, .int 4)]) hx hb dX6_power_14 hl (k := 1) rfl (by decide) (by decide) rfl (fun ls hl => ?_)
  refine lv_goto (tgt := 4) hx hb dX6_power_17 (by decide) ?_
  refine lv_iload_n hx hb dX6_power_4 rfl (lv_at hl 0 rfl) ?_
  refine lv_iload_n hx hb dX6_power_5 rfl (lv_at hl 2 rfl) ?_
  refine lv_icmp_ge (tgt := 20) hx hb dX6_power_6 (by decide) (fun c_10 => absurd c_10 (by decide)) (fun _ => ?_)
  refine lv_iload_n hx hb dX6_power_9 rfl (lv_at hl 1 rfl) ?_
  refine lv_bipush (v := 10) hx hb dX6_power_10 (by decide) ?_
  refine lv_imul hx hb dX6_power_12 ?_
  refine lv_topi (fun x_11 e_12 => ?_)
  obtain rfl : x_11 = 10000 := e_12.trans (by decide)
  refine lv_istore_n (lv' := [(1, .int 10000), (2, .int 3), (0, .int 4)]) hx hb dX6_power_13 rfl hl (by decide) rfl (fun ls hl => ?_)
  refine lv_iinc (v := 4) (lv' := [(2, .int 4), (1, .int 10000), (0, .int 4)]) hx hb dX6_power_14 hl (k := 1) rfl (by decide) (by decide) rfl (fun ls hl => ?_)
  refine lv_goto (tgt := 4) hx hb dX6_power_17 (by decide) ?_
  refine lv_iload_n hx hb dX6_power_4 rfl (lv_at hl 0 rfl) ?_
  refine lv_iload_n hx hb dX6_power_5 rfl (lv_at hl 2 rfl) ?_
  refine lv_icmp_ge (tgt := 20) hx hb dX6_power_6 (by decide) (fun _ => ?_) (fun c_13 => absurd (by decide) c_13)
  refine lv_iload_n hx hb dX6_power_20 rfl (lv_at hl 1 rfl) ?_
  have hP9 := hP.sub (ws' := []) [] rfl
  have hD9 := hD.sub (ws' := []) [] (by decide) rfl
  have hK9 := hK.sub (tys' := []) [] rfl
  exact W.iret (v := 10000) hx hb hr (fun t ht hW => ⟨⟨10000, (), rfl, rfl, by rw [ht]; exact hP9, va_K.moved hW.alike hK9, hD9⟩, hS.F ht⟩) hS.2.2 dX6_power_21
def v_c_power_5 : List Cond := .code yX6_power cX6_power 3 (some .int) :: ([] ++ [])
set_option maxHeartbeats 4000000 in
set_option maxRecDepth 100000 in
theorem c_power_5 (l : Launch) (hl9 : l.stackTraces = false) (dC : Nat → ClassId) (dI : Nat → Nat → Nat) (tE : Nat)  (sz : Nat) : Met l yX6_power v_c_power_5 ({ frames := 0, cells := 0, slots := 0, locals := 0 }) (va_Pc [.int 5] (Pre0 dC dI tE sz [] [])) (va_Qi (fun (r : Int32) (_ : Unit) => r = 100000) (fun _ t => Pst dC dI [] (va_A [] sz) [] t) (va_A [] sz)) 0 0 (va_A [] sz) := by
  refine Met.ofW (cc := cX6_power) (maxL := 3) (ret := (some .int)) (by decide) rfl ?_
  intro p e s m args below meth c s₁ B hml hv
  obtain ⟨rfl, hsz, hP, hK, hD0, hT⟩ := hv
  have hx := B.exec
  have hb := B.bytes
  have hr := B.returns
  have hts := atoms_spec (ws := v_c_power_5) B.pre
  have hown : s.vm.findClass RX6 = some m.cls := findClass_of_methodNamed B.named
  have hlocks := B.notSynchronized
  subst hsz
  have hD := hD0.self (sz := s.heap.size)
  generalize hAe : va_A [] s.heap.size = A at hD hT ⊢
  have hA : ∀ q : Nat, s.heap.size ≤ q → A q := fun q h => by rw [← hAe]; exact Or.inr h
  have hS : va_S A s.heap s.heap [] := va_S.rf
  have hl := lv_entry ([.int 5]) (n := 3) (Nat.le_of_ble_eq_true rfl)
  rw [lg_entry_eq]
  generalize (lg_sl ([.int 5]) ++ List.replicate (3 - (lg_sl ([.int 5])).length) Slot.unset).toArray = ls at hl ⊢
  have hl : lv_has ls 3 [(0, .int 5)] := hl
  refine lv_iconst (v := 1) hx hb dX6_power_0 (by decide) ?_
  refine lv_istore_n (lv' := [(1, .int 1), (0, .int 5)]) hx hb dX6_power_1 rfl hl (by decide) rfl (fun ls hl => ?_)
  refine lv_iconst (v := 0) hx hb dX6_power_2 (by decide) ?_
  refine lv_istore_n (lv' := [(2, .int 0), (1, .int 1), (0, .int 5)]) hx hb dX6_power_3 rfl hl (by decide) rfl (fun ls hl => ?_)
  refine lv_iload_n hx hb dX6_power_4 rfl (lv_at hl 0 rfl) ?_
  refine lv_iload_n hx hb dX6_power_5 rfl (lv_at hl 2 rfl) ?_
  refine lv_icmp_ge (tgt := 20) hx hb dX6_power_6 (by decide) (fun c_1 => absurd c_1 (by decide)) (fun _ => ?_)
  refine lv_iload_n hx hb dX6_power_9 rfl (lv_at hl 1 rfl) ?_
  refine lv_bipush (v := 10) hx hb dX6_power_10 (by decide) ?_
  refine lv_imul hx hb dX6_power_12 ?_
  refine lv_topi (fun x_2 e_3 => ?_)
  obtain rfl : x_2 = 10 := e_3.trans (by decide)
  refine lv_istore_n (lv' := [(1, .int 10), (2, .int 0), (0, .int 5)]) hx hb dX6_power_13 rfl hl (by decide) rfl (fun ls hl => ?_)
  refine lv_iinc (v := 1) (lv' := [(2, .int 1), (1, .int 10), (0, .int 5)]) hx hb dX6_power_14 hl (k := 1) rfl (by decide) (by decide) rfl (fun ls hl => ?_)
  refine lv_goto (tgt := 4) hx hb dX6_power_17 (by decide) ?_
  refine lv_iload_n hx hb dX6_power_4 rfl (lv_at hl 0 rfl) ?_
  refine lv_iload_n hx hb dX6_power_5 rfl (lv_at hl 2 rfl) ?_
  refine lv_icmp_ge (tgt := 20) hx hb dX6_power_6 (by decide) (fun c_4 => absurd c_4 (by decide)) (fun _ => ?_)
  refine lv_iload_n hx hb dX6_power_9 rfl (lv_at hl 1 rfl) ?_
  refine lv_bipush (v := 10) hx hb dX6_power_10 (by decide) ?_
  refine lv_imul hx hb dX6_power_12 ?_
  refine lv_topi (fun x_5 e_6 => ?_)
  obtain rfl : x_5 = 100 := e_6.trans (by decide)
  refine lv_istore_n (lv' := [(1, .int 100), (2, .int 1), (0, .int 5)]) hx hb dX6_power_13 rfl hl (by decide) rfl (fun ls hl => ?_)
  refine lv_iinc (v := 2) (lv' := [(2, .int 2), (1, .int 100), (0, .int 5)]) hx hb dX6_power_14 hl (k := 1) rfl (by decide) (by decide) rfl (fun ls hl => ?_)
  refine lv_goto (tgt := 4) hx hb dX6_power_17 (by decide) ?_
  refine lv_iload_n hx hb dX6_power_4 rfl (lv_at hl 0 rfl) ?_
  refine lv_iload_n hx hb dX6_power_5 rfl (lv_at hl 2 rfl) ?_
  refine lv_icmp_ge (tgt := 20) hx hb dX6_power_6 (by decide) (fun c_7 => absurd c_7 (by decide)) (fun _ => ?_)
  refine lv_iload_n hx hb dX6_power_9 rfl (lv_at hl 1 rfl) ?_
  refine lv_bipush (v := 10) hx hb dX6_power_10 (by decide) ?_
  refine lv_imul hx hb dX6_power_12 ?_
  refine lv_topi (fun x_8 e_9 => ?_)
  obtain rfl : x_8 = 1000 := e_9.trans (by decide)
  refine lv_istore_n (lv' := [(1, .int 1000), (2, .int 2), (0, .int 5)]) hx hb dX6_power_13 rfl hl (by decide) rfl (fun ls hl => ?_)
  refine lv_iinc (v := 3) (lv' := [(2, .int 3), (1, .int 1000), (0, .int 5)]) hx hb dX6_power_14 hl (k := 1) rfl (by decide) (by decide) rfl (fun ls hl => ?_)
  refine lv_goto (tgt := 4) hx hb dX6_power_17 (by decide) ?_
  refine lv_iload_n hx hb dX6_power_4 rfl (lv_at hl 0 rfl) ?_
  refine lv_iload_n hx hb dX6_power_5 rfl (lv_at hl 2 rfl) ?_
  refine lv_icmp_ge (tgt := 20) hx hb dX6_power_6 (by decide) (fun c_10 => absurd c_10 (by decide)) (fun _ => ?_)
  refine lv_iload_n hx hb dX6_power_9 rfl (lv_at hl 1 rfl) ?_
  refine lv_bipush (v := 10) hx hb dX6_power_10 (by decide) ?_
  refine lv_imul hx hb dX6_power_12 ?_
  refine lv_topi (fun x_11 e_12 => ?_)
  obtain rfl : x_11 = 10000 := e_12.trans (by decide)
  refine lv_istore_n (lv' := [(1, .int 10000), (2, .int 3), (0, .int 5)]) hx hb dX6_power_13 rfl hl (by decide) rfl (fun ls hl => ?_)
  refine lv_iinc (v := 4) (lv' := [(2, .int 4), (1, .int 10000), (0, .int 5)]) hx hb dX6_power_14 hl (k := 1) rfl (by decide) (by decide) rfl (fun ls hl => ?_)
  refine lv_goto (tgt := 4) hx hb dX6_power_17 (by decide) ?_
  refine lv_iload_n hx hb dX6_power_4 rfl (lv_at hl 0 rfl) ?_
  refine lv_iload_n hx hb dX6_power_5 rfl (lv_at hl 2 rfl) ?_
  refine lv_icmp_ge (tgt := 20) hx hb dX6_power_6 (by decide) (fun c_13 => absurd c_13 (by decide)) (fun _ => ?_)
  refine lv_iload_n hx hb dX6_power_9 rfl (lv_at hl 1 rfl) ?_
  refine lv_bipush (v := 10) hx hb dX6_power_10 (by decide) ?_
  refine lv_imul hx hb dX6_power_12 ?_
  refine lv_topi (fun x_14 e_15 => ?_)
  obtain rfl : x_14 = 100000 := e_15.trans (by decide)
  refine lv_istore_n (lv' := [(1, .int 100000), (2, .int 4), (0, .int 5)]) hx hb dX6_power_13 rfl hl (by decide) rfl (fun ls hl => ?_)
  refine lv_iinc (v := 5) (lv' := [(2, .int 5), (1, .int 100000), (0, .int 5)]) hx hb dX6_power_14 hl (k := 1) rfl (by decide) (by decide) rfl (fun ls hl => ?_)
  refine lv_goto (tgt := 4) hx hb dX6_power_17 (by decide) ?_
  refine lv_iload_n hx hb dX6_power_4 rfl (lv_at hl 0 rfl) ?_
  refine lv_iload_n hx hb dX6_power_5 rfl (lv_at hl 2 rfl) ?_
  refine lv_icmp_ge (tgt := 20) hx hb dX6_power_6 (by decide) (fun _ => ?_) (fun c_16 => absurd (by decide) c_16)
  refine lv_iload_n hx hb dX6_power_20 rfl (lv_at hl 1 rfl) ?_
  have hP9 := hP.sub (ws' := []) [] rfl
  have hD9 := hD.sub (ws' := []) [] (by decide) rfl
  have hK9 := hK.sub (tys' := []) [] rfl
  exact W.iret (v := 100000) hx hb hr (fun t ht hW => ⟨⟨100000, (), rfl, rfl, by rw [ht]; exact hP9, va_K.moved hW.alike hK9, hD9⟩, hS.F ht⟩) hS.2.2 dX6_power_21
def v_c_power_6 : List Cond := .code yX6_power cX6_power 3 (some .int) :: ([] ++ [])
set_option maxHeartbeats 4000000 in
set_option maxRecDepth 100000 in
theorem c_power_6 (l : Launch) (hl9 : l.stackTraces = false) (dC : Nat → ClassId) (dI : Nat → Nat → Nat) (tE : Nat)  (sz : Nat) : Met l yX6_power v_c_power_6 ({ frames := 0, cells := 0, slots := 0, locals := 0 }) (va_Pc [.int 6] (Pre0 dC dI tE sz [] [])) (va_Qi (fun (r : Int32) (_ : Unit) => r = 1000000) (fun _ t => Pst dC dI [] (va_A [] sz) [] t) (va_A [] sz)) 0 0 (va_A [] sz) := by
  refine Met.ofW (cc := cX6_power) (maxL := 3) (ret := (some .int)) (by decide) rfl ?_
  intro p e s m args below meth c s₁ B hml hv
  obtain ⟨rfl, hsz, hP, hK, hD0, hT⟩ := hv
  have hx := B.exec
  have hb := B.bytes
  have hr := B.returns
  have hts := atoms_spec (ws := v_c_power_6) B.pre
  have hown : s.vm.findClass RX6 = some m.cls := findClass_of_methodNamed B.named
  have hlocks := B.notSynchronized
  subst hsz
  have hD := hD0.self (sz := s.heap.size)
  generalize hAe : va_A [] s.heap.size = A at hD hT ⊢
  have hA : ∀ q : Nat, s.heap.size ≤ q → A q := fun q h => by rw [← hAe]; exact Or.inr h
  have hS : va_S A s.heap s.heap [] := va_S.rf
  have hl := lv_entry ([.int 6]) (n := 3) (Nat.le_of_ble_eq_true rfl)
  rw [lg_entry_eq]
  generalize (lg_sl ([.int 6]) ++ List.replicate (3 - (lg_sl ([.int 6])).length) Slot.unset).toArray = ls at hl ⊢
  have hl : lv_has ls 3 [(0, .int 6)] := hl
  refine lv_iconst (v := 1) hx hb dX6_power_0 (by decide) ?_
  refine lv_istore_n (lv' := [(1, .int 1), (0, .int 6)]) hx hb dX6_power_1 rfl hl (by decide) rfl (fun ls hl => ?_)
  refine lv_iconst (v := 0) hx hb dX6_power_2 (by decide) ?_
  refine lv_istore_n (lv' := [(2, .int 0), (1, .int 1), (0, .int 6)]) hx hb dX6_power_3 rfl hl (by decide) rfl (fun ls hl => ?_)
  refine lv_iload_n hx hb dX6_power_4 rfl (lv_at hl 0 rfl) ?_
  refine lv_iload_n hx hb dX6_power_5 rfl (lv_at hl 2 rfl) ?_
  refine lv_icmp_ge (tgt := 20) hx hb dX6_power_6 (by decide) (fun c_1 => absurd c_1 (by decide)) (fun _ => ?_)
  refine lv_iload_n hx hb dX6_power_9 rfl (lv_at hl 1 rfl) ?_
  refine lv_bipush (v := 10) hx hb dX6_power_10 (by decide) ?_
  refine lv_imul hx hb dX6_power_12 ?_
  refine lv_topi (fun x_2 e_3 => ?_)
  obtain rfl : x_2 = 10 := e_3.trans (by decide)
  refine lv_istore_n (lv' := [(1, .int 10), (2, .int 0), (0, .int 6)]) hx hb dX6_power_13 rfl hl (by decide) rfl (fun ls hl => ?_)
  refine lv_iinc (v := 1) (lv' := [(2, .int 1), (1, .int 10), (0, .int 6)]) hx hb dX6_power_14 hl (k := 1) rfl (by decide) (by decide) rfl (fun ls hl => ?_)
  refine lv_goto (tgt := 4) hx hb dX6_power_17 (by decide) ?_
  refine lv_iload_n hx hb dX6_power_4 rfl (lv_at hl 0 rfl) ?_
  refine lv_iload_n hx hb dX6_power_5 rfl (lv_at hl 2 rfl) ?_
  refine lv_icmp_ge (tgt := 20) hx hb dX6_power_6 (by decide) (fun c_4 => absurd c_4 (by decide)) (fun _ => ?_)
  refine lv_iload_n hx hb dX6_power_9 rfl (lv_at hl 1 rfl) ?_
  refine lv_bipush (v := 10) hx hb dX6_power_10 (by decide) ?_
  refine lv_imul hx hb dX6_power_12 ?_
  refine lv_topi (fun x_5 e_6 => ?_)
  obtain rfl : x_5 = 100 := e_6.trans (by decide)
  refine lv_istore_n (lv' := [(1, .int 100), (2, .int 1), (0, .int 6)]) hx hb dX6_power_13 rfl hl (by decide) rfl (fun ls hl => ?_)
  refine lv_iinc (v := 2) (lv' := [(2, .int 2), (1, .int 100), (0, .int 6)]) hx hb dX6_power_14 hl (k := 1) rfl (by decide) (by decide) rfl (fun ls hl => ?_)
  refine lv_goto (tgt := 4) hx hb dX6_power_17 (by decide) ?_
  refine lv_iload_n hx hb dX6_power_4 rfl (lv_at hl 0 rfl) ?_
  refine lv_iload_n hx hb dX6_power_5 rfl (lv_at hl 2 rfl) ?_
  refine lv_icmp_ge (tgt := 20) hx hb dX6_power_6 (by decide) (fun c_7 => absurd c_7 (by decide)) (fun _ => ?_)
  refine lv_iload_n hx hb dX6_power_9 rfl (lv_at hl 1 rfl) ?_
  refine lv_bipush (v := 10) hx hb dX6_power_10 (by decide) ?_
  refine lv_imul hx hb dX6_power_12 ?_
  refine lv_topi (fun x_8 e_9 => ?_)
  obtain rfl : x_8 = 1000 := e_9.trans (by decide)
  refine lv_istore_n (lv' := [(1, .int 1000), (2, .int 2), (0, .int 6)]) hx hb dX6_power_13 rfl hl (by decide) rfl (fun ls hl => ?_)
  refine lv_iinc (v := 3) (lv' := [(2, .int 3), (1, .int 1000), (0, .int 6)]) hx hb dX6_power_14 hl (k := 1) rfl (by decide) (by decide) rfl (fun ls hl => ?_)
  refine lv_goto (tgt := 4) hx hb dX6_power_17 (by decide) ?_
  refine lv_iload_n hx hb dX6_power_4 rfl (lv_at hl 0 rfl) ?_
  refine lv_iload_n hx hb dX6_power_5 rfl (lv_at hl 2 rfl) ?_
  refine lv_icmp_ge (tgt := 20) hx hb dX6_power_6 (by decide) (fun c_10 => absurd c_10 (by decide)) (fun _ => ?_)
  refine lv_iload_n hx hb dX6_power_9 rfl (lv_at hl 1 rfl) ?_
  refine lv_bipush (v := 10) hx hb dX6_power_10 (by decide) ?_
  refine lv_imul hx hb dX6_power_12 ?_
  refine lv_topi (fun x_11 e_12 => ?_)
  obtain rfl : x_11 = 10000 := e_12.trans (by decide)
  refine lv_istore_n (lv' := [(1, .int 10000), (2, .int 3), (0, .int 6)]) hx hb dX6_power_13 rfl hl (by decide) rfl (fun ls hl => ?_)
  refine lv_iinc (v := 4) (lv' := [(2, .int 4), (1, .int 10000), (0, .int 6)]) hx hb dX6_power_14 hl (k := 1) rfl (by decide) (by decide) rfl (fun ls hl => ?_)
  refine lv_goto (tgt := 4) hx hb dX6_power_17 (by decide) ?_
  refine lv_iload_n hx hb dX6_power_4 rfl (lv_at hl 0 rfl) ?_
  refine lv_iload_n hx hb dX6_power_5 rfl (lv_at hl 2 rfl) ?_
  refine lv_icmp_ge (tgt := 20) hx hb dX6_power_6 (by decide) (fun c_13 => absurd c_13 (by decide)) (fun _ => ?_)
  refine lv_iload_n hx hb dX6_power_9 rfl (lv_at hl 1 rfl) ?_
  refine lv_bipush (v := 10) hx hb dX6_power_10 (by decide) ?_
  refine lv_imul hx hb dX6_power_12 ?_
  refine lv_topi (fun x_14 e_15 => ?_)
  obtain rfl : x_14 = 100000 := e_15.trans (by decide)
  refine lv_istore_n (lv' := [(1, .int 100000), (2, .int 4), (0, .int 6)]) hx hb dX6_power_13 rfl hl (by decide) rfl (fun ls hl => ?_)
  refine lv_iinc (v := 5) (lv' := [(2, .int 5), (1, .int 100000), (0, .int 6)]) hx hb dX6_power_14 hl (k := 1) rfl (by decide) (by decide) rfl (fun ls hl => ?_)
  refine lv_goto (tgt := 4) hx hb dX6_power_17 (by decide) ?_
  refine lv_iload_n hx hb dX6_power_4 rfl (lv_at hl 0 rfl) ?_
  refine lv_iload_n hx hb dX6_power_5 rfl (lv_at hl 2 rfl) ?_
  refine lv_icmp_ge (tgt := 20) hx hb dX6_power_6 (by decide) (fun c_16 => absurd c_16 (by decide)) (fun _ => ?_)
  refine lv_iload_n hx hb dX6_power_9 rfl (lv_at hl 1 rfl) ?_
  refine lv_bipush (v := 10) hx hb dX6_power_10 (by decide) ?_
  refine lv_imul hx hb dX6_power_12 ?_
  refine lv_topi (fun x_17 e_18 => ?_)
  obtain rfl : x_17 = 1000000 := e_18.trans (by decide)
  refine lv_istore_n (lv' := [(1, .int 1000000), (2, .int 5), (0, .int 6)]) hx hb dX6_power_13 rfl hl (by decide) rfl (fun ls hl => ?_)
  refine lv_iinc (v := 6) (lv' := [(2, .int 6), (1, .int 1000000), (0, .int 6)]) hx hb dX6_power_14 hl (k := 1) rfl (by decide) (by decide) rfl (fun ls hl => ?_)
  refine lv_goto (tgt := 4) hx hb dX6_power_17 (by decide) ?_
  refine lv_iload_n hx hb dX6_power_4 rfl (lv_at hl 0 rfl) ?_
  refine lv_iload_n hx hb dX6_power_5 rfl (lv_at hl 2 rfl) ?_
  refine lv_icmp_ge (tgt := 20) hx hb dX6_power_6 (by decide) (fun _ => ?_) (fun c_19 => absurd (by decide) c_19)
  refine lv_iload_n hx hb dX6_power_20 rfl (lv_at hl 1 rfl) ?_
  have hP9 := hP.sub (ws' := []) [] rfl
  have hD9 := hD.sub (ws' := []) [] (by decide) rfl
  have hK9 := hK.sub (tys' := []) [] rfl
  exact W.iret (v := 1000000) hx hb hr (fun t ht hW => ⟨⟨1000000, (), rfl, rfl, by rw [ht]; exact hP9, va_K.moved hW.alike hK9, hD9⟩, hS.F ht⟩) hS.2.2 dX6_power_21
def v_c_ringOne : List Cond := .code yX6_ringOne cX6_ringOne 4 (some .int) :: ([Cond.fieldLink RX6 34 "HotelOfBellsModel" "guests" "I", Cond.fieldLink RX6 9 "HotelOfBellsModel" "row" "[I", Cond.code yX6_power cX6_power 3 (some .int), Cond.methodLink RX6 90 yX6_power, Cond.static yX6_power, Cond.initialized RX6, Cond.fieldLink RX6 24 "HotelOfBellsModel" "floors" "I", Cond.fieldLink RX6 31 "HotelOfBellsModel" "lifts" "I"] ++ (wsX60 ++ []))
theorem u_c_ringOne_X6 : ∀ w ∈ wsX60, w ∈ v_c_ringOne := fun _ h => List.mem_cons_of_mem _ (List.mem_append_right _ (List.mem_append_left _ h))
theorem gg_c_ringOne_c_power_5 : GoodIn v_c_ringOne v_c_power_5 := goodIn_r _ [3] (by rfl) (by decide +kernel)
set_option maxHeartbeats 4000000 in
set_option maxRecDepth 100000 in
theorem c_ringOne (l : Launch) (hl9 : l.stackTraces = false) (dC : Nat → ClassId) (dI : Nat → Nat → Nat) (tE : Nat) (h0 : Nat) (rq : Nat) (sbq : Nat) (th : Int32) (ci : ClassId) (fr : Nat → Int32) (p0 : Int32) (sz : Nat) : Met l yX6_ringOne v_c_ringOne ({ frames := 1, cells := 0, slots := 0, locals := 22 }) (va_Pc [.ref h0, .int p0] (Pre0 dC dI tE sz [(ci, .int)] [(h0, .inr (11, [.int th, .int 0, .int 0, .int 0, .ref rq, .ref sbq])), (rq, .inl (ci, 119, .inl fr))])) (va_Qi (fun (r : Int32) (_ : Unit) => r = 0) (fun _ t => ∃ (fx0 : Nat → Int32), Pst dC dI [(ci, .int)] (va_A [(h0, .inr (11, [.int th, .int 0, .int 0, .int 0, .ref rq, .ref sbq])), (rq, .inl (ci, 119, .inl fr))] sz) [(h0, .inr (11, [.int th, .int 0, .int 0, .int 0, .ref rq, .ref sbq])), (rq, .inl (ci, 119, .inl fx0))] t) (va_A [(h0, .inr (11, [.int th, .int 0, .int 0, .int 0, .ref rq, .ref sbq])), (rq, .inl (ci, 119, .inl fr))] sz)) 0 0 (va_A [(h0, .inr (11, [.int th, .int 0, .int 0, .int 0, .ref rq, .ref sbq])), (rq, .inl (ci, 119, .inl fr))] sz) := by
  refine Met.ofW (cc := cX6_ringOne) (maxL := 4) (ret := (some .int)) (by decide) rfl ?_
  intro p e s m args below meth c s₁ B hml hv
  obtain ⟨rfl, hsz, hP, hK, hD0, hT⟩ := hv
  have hx := B.exec
  have hb := B.bytes
  have hr := B.returns
  have hts := atoms_spec (ws := v_c_ringOne) B.pre
  have hown : s.vm.findClass RX6 = some m.cls := findClass_of_methodNamed B.named
  have hlocks := B.notSynchronized
  subst hsz
  have hD := hD0.self (sz := s.heap.size)
  generalize hAe : va_A [(h0, .inr (11, [.int th, .int 0, .int 0, .int 0, .ref rq, .ref sbq])), (rq, .inl (ci, 119, .inl fr))] s.heap.size = A at hD hT ⊢
  have hA : ∀ q : Nat, s.heap.size ≤ q → A q := fun q h => by rw [← hAe]; exact Or.inr h
  have hS : va_S A s.heap s.heap [] := va_S.rf
  have hl := lv_entry ([.ref h0, .int p0]) (n := 4) (Nat.le_of_ble_eq_true rfl)
  rw [lg_entry_eq]
  generalize (lg_sl ([.ref h0, .int p0]) ++ List.replicate (4 - (lg_sl ([.ref h0, .int p0])).length) Slot.unset).toArray = ls at hl ⊢
  have hl : lv_has ls 4 [(0, .ref h0), (1, .int p0)] := hl
  refine lv_iconst (v := 0) hx hb dX6_ringOne_0 (by decide) ?_
  refine lv_istore_n (lv' := [(2, .int 0), (0, .ref h0), (1, .int p0)]) hx hb dX6_ringOne_1 rfl hl (by decide) rfl (fun ls hl => ?_)
  refine lv_iload_n hx hb dX6_ringOne_2 rfl (lv_at hl 0 rfl) ?_
  refine lv_aload_n hx hb dX6_ringOne_3 rfl (lv_at hl 1 rfl) ?_
  refine va_get (D := (dC, dI)) (ci := 11) (v := .int 0) (C := RX6) (T := TX6) (N := 6) hx hb hts u_c_ringOne_X6 hown hK hP 0 rfl rfl 3 (by decide) (hts (.fieldLink RX6 34 "HotelOfBellsModel" "guests" "I") (List.mem_of_getElem? (i := 1) rfl)) (fun _ h9 => h9) rfl dX6_ringOne_4 ?_
  refine lv_icmp_ge (tgt := 38) hx hb dX6_ringOne_7 (by decide) (fun _ => ?_) (fun c_1 => absurd (by decide) c_1)
  refine lv_aload_n hx hb dX6_ringOne_38 rfl (lv_at hl 1 rfl) ?_
  refine va_get (D := (dC, dI)) (ci := 11) (v := .ref rq) (C := RX6) (T := TX6) (N := 6) hx hb hts u_c_ringOne_X6 hown hK hP 0 rfl rfl 4 (by decide) (hts (.fieldLink RX6 9 "HotelOfBellsModel" "row" "[I") (List.mem_of_getElem? (i := 2) rfl)) (fun _ h9 => h9) rfl dX6_ringOne_39 ?_
  refine lv_bipush (v := 116) hx hb dX6_ringOne_42 (by decide) ?_
  refine lv_aload_n hx hb dX6_ringOne_44 rfl (lv_at hl 1 rfl) ?_
  refine va_get (D := (dC, dI)) (ci := 11) (v := .ref rq) (C := RX6) (T := TX6) (N := 6) hx hb hts u_c_ringOne_X6 hown hK hP 0 rfl rfl 4 (by decide) (hts (.fieldLink RX6 9 "HotelOfBellsModel" "row" "[I") (List.mem_of_getElem? (i := 2) rfl)) (fun _ h9 => h9) rfl dX6_ringOne_45 ?_
  refine lv_bipush (v := 116) hx hb dX6_ringOne_48 (by decide) ?_
  refine va_iald hx hb hK hP 1 0 rfl rfl (by unfold vp_in; decide) dX6_ringOne_50 ?_
  refine lv_topi (fun x_2 e_3 => ?_)
  refine lv_iconst (v := 5) hx hb dX6_ringOne_51 (by decide) ?_
  have hPc := hP.sub (ws' := []) [] rfl
  have hDc := hD.sub (ws' := []) [] (by decide) rfl
  have hKc := hK.sub (tys' := []) [] rfl
  have hFc := va_free (wc := []) hD hS hA [] rfl
  refine va_calli (va_runS (As := [.int 5]) (rest := [.int x_2, .int 116, .ref rq]) ⟨hx, hb, hml, hown, hts⟩ (c_power_5 l hl9 dC dI tE  _ ) (va_cwS 1 hts (goodIn_app (goodIn_r _ [4, 5, 6] (by rfl) (by decide +kernel)) gg_c_ringOne_c_power_5) rfl rfl rfl (by decide +kernel) ⟨Nat.le_of_ble_eq_true rfl, Nat.le_of_ble_eq_true rfl⟩) ⟨Pre0.blind, Pre0.give hPc hKc hDc hT hS hFc⟩ rfl rfl hl.1 rfl (lv_room (Nat.le_of_ble_eq_true rfl)) dX6_ringOne_52 ⟨Nat.le_of_ble_eq_true rfl, Nat.le_of_ble_eq_true rfl⟩) hS (fun q _ h => hFc q h) hFc (fun r_4 u t H1 locs ht hvm hw hB hz1 hk1 hS => ?_)
  obtain ⟨hP1, hK1, hD1⟩ := hB
  rw [ht] at hP1
  have hK1 := va_K.moved hvm.symm hK1
  obtain ⟨hP, hD⟩ := va_join (wr := [(h0, .inr (11, [.int th, .int 0, .int 0, .int 0, .ref rq, .ref sbq])), (rq, .inl (ci, 119, .inl fr))]) (w1 := []) hP hD [] [0, 1] rfl rfl (by decide) (by decide) hk1 hFc hP1 hD1
  generalize H1 = H at hP hS ⊢
  have hP : va_P (dC, dI) vwCl [(h0, .inr (11, [.int th, .int 0, .int 0, .int 0, .ref rq, .ref sbq])), (rq, .inl (ci, 119, .inl fr))] H := hP
  have hD : va_D A [(h0, .inr (11, [.int th, .int 0, .int 0, .int 0, .ref rq, .ref sbq])), (rq, .inl (ci, 119, .inl fr))] := hD
  refine W.widen (k := 0) (n := 0) (by omega) (by omega) ?_
  obtain rfl : r_4 = 100000 := hw
  refine lv_irem hx hb dX6_ringOne_55 (by decide) ?_
  refine lv_topi (fun x_5 e_6 => ?_)
  refine lv_bipush (v := 10) hx hb dX6_ringOne_56 (by decide) ?_
  refine lv_imul hx hb dX6_ringOne_58 ?_
  refine lv_topi (fun x_7 e_8 => ?_)
  refine lv_iload_n hx hb dX6_ringOne_59 rfl (lv_at hl 2 rfl) ?_
  refine lv_iadd hx hb dX6_ringOne_60 ?_
  refine lv_topi (fun x_9 e_10 => ?_)
  refine va_iast hx hb hK hP hD hS 1 0 rfl rfl (by unfold vp_in; decide) dX6_ringOne_61 (fun H locs hP hD hS => ?_)
  obtain ⟨f_11, ef_11⟩ : ∃ z, z = upd fr (116 : Int32).toNatClampNeg x_9 := ⟨_, rfl⟩
  rw [← ef_11] at hP hD
  have hP : va_P (dC, dI) vwCl [(h0, .inr (11, [.int th, .int 0, .int 0, .int 0, .ref rq, .ref sbq])), (rq, .inl (ci, 119, .inl f_11))] H := hP
  have hD : va_D A [(h0, .inr (11, [.int th, .int 0, .int 0, .int 0, .ref rq, .ref sbq])), (rq, .inl (ci, 119, .inl f_11))] := hD
  refine lv_aload_n hx hb dX6_ringOne_62 rfl (lv_at hl 1 rfl) ?_
  refine va_get (D := (dC, dI)) (ci := 11) (v := .ref rq) (C := RX6) (T := TX6) (N := 6) hx hb hts u_c_ringOne_X6 hown hK hP 0 rfl rfl 4 (by decide) (hts (.fieldLink RX6 9 "HotelOfBellsModel" "row" "[I") (List.mem_of_getElem? (i := 2) rfl)) (fun _ h9 => h9) rfl dX6_ringOne_63 ?_
  refine lv_bipush (v := 117) hx hb dX6_ringOne_66 (by decide) ?_
  refine lv_dup2_11 hx hb dX6_ringOne_68 rfl rfl ?_
  refine va_iald hx hb hK hP 1 0 rfl rfl (by unfold vp_in; decide) dX6_ringOne_69 ?_
  refine lv_topi (fun x_12 e_13 => ?_)
  refine lv_iconst (v := 1) hx hb dX6_ringOne_70 (by decide) ?_
  refine lv_iadd hx hb dX6_ringOne_71 ?_
  refine lv_topi (fun x_14 e_15 => ?_)
  refine va_iast hx hb hK hP hD hS 1 0 rfl rfl (by unfold vp_in; decide) dX6_ringOne_72 (fun H locs hP hD hS => ?_)
  obtain ⟨f_16, ef_16⟩ : ∃ z, z = upd f_11 (117 : Int32).toNatClampNeg x_14 := ⟨_, rfl⟩
  rw [← ef_16] at hP hD
  have hP : va_P (dC, dI) vwCl [(h0, .inr (11, [.int th, .int 0, .int 0, .int 0, .ref rq, .ref sbq])), (rq, .inl (ci, 119, .inl f_16))] H := hP
  have hD : va_D A [(h0, .inr (11, [.int th, .int 0, .int 0, .int 0, .ref rq, .ref sbq])), (rq, .inl (ci, 119, .inl f_16))] := hD
  refine lv_iconst (v := 0) hx hb dX6_ringOne_73 (by decide) ?_
  refine lv_istore_n (lv' := [(2, .int 0), (0, .ref h0), (1, .int p0)]) hx hb dX6_ringOne_74 rfl hl (by decide) rfl (fun ls hl => ?_)
  refine lv_iload_n hx hb dX6_ringOne_75 rfl (lv_at hl 0 rfl) ?_
  refine lv_aload_n hx hb dX6_ringOne_76 rfl (lv_at hl 1 rfl) ?_
  refine va_get (D := (dC, dI)) (ci := 11) (v := .int 0) (C := RX6) (T := TX6) (N := 6) hx hb hts u_c_ringOne_X6 hown hK hP 0 rfl rfl 1 (by decide) (hts (.fieldLink RX6 24 "HotelOfBellsModel" "floors" "I") (List.mem_of_getElem? (i := 7) rfl)) (fun _ h9 => h9) rfl dX6_ringOne_77 ?_
  refine lv_icmp_ge (tgt := 155) hx hb dX6_ringOne_80 (by decide) (fun _ => ?_) (fun c_17 => absurd (by decide) c_17)
  refine lv_iconst (v := 0) hx hb dX6_ringOne_155 (by decide) ?_
  refine lv_istore_n (lv' := [(2, .int 0), (0, .ref h0), (1, .int p0)]) hx hb dX6_ringOne_156 rfl hl (by decide) rfl (fun ls hl => ?_)
  refine lv_iload_n hx hb dX6_ringOne_157 rfl (lv_at hl 0 rfl) ?_
  refine lv_aload_n hx hb dX6_ringOne_158 rfl (lv_at hl 1 rfl) ?_
  refine va_get (D := (dC, dI)) (ci := 11) (v := .int 0) (C := RX6) (T := TX6) (N := 6) hx hb hts u_c_ringOne_X6 hown hK hP 0 rfl rfl 2 (by decide) (hts (.fieldLink RX6 31 "HotelOfBellsModel" "lifts" "I") (List.mem_of_getElem? (i := 8) rfl)) (fun _ h9 => h9) rfl dX6_ringOne_159 ?_
  refine lv_icmp_ge (tgt := 176) hx hb dX6_ringOne_162 (by decide) (fun _ => ?_) (fun c_18 => absurd (by decide) c_18)
  refine lv_iconst (v := 0) hx hb dX6_ringOne_176 (by decide) ?_
  refine lv_istore_n (lv' := [(2, .int 0), (0, .ref h0), (1, .int p0)]) hx hb dX6_ringOne_177 rfl hl (by decide) rfl (fun ls hl => ?_)
  refine lv_iconst (v := 0) hx hb dX6_ringOne_178 (by decide) ?_
  refine lv_istore_n (lv' := [(3, .int 0), (2, .int 0), (0, .ref h0), (1, .int p0)]) hx hb dX6_ringOne_179 rfl hl (by decide) rfl (fun ls hl => ?_)
  refine lv_iload_n hx hb dX6_ringOne_180 rfl (lv_at hl 0 rfl) ?_
  refine lv_aload_n hx hb dX6_ringOne_181 rfl (lv_at hl 2 rfl) ?_
  refine va_get (D := (dC, dI)) (ci := 11) (v := .int 0) (C := RX6) (T := TX6) (N := 6) hx hb hts u_c_ringOne_X6 hown hK hP 0 rfl rfl 3 (by decide) (hts (.fieldLink RX6 34 "HotelOfBellsModel" "guests" "I") (List.mem_of_getElem? (i := 1) rfl)) (fun _ h9 => h9) rfl dX6_ringOne_182 ?_
  refine lv_icmp_ge (tgt := 210) hx hb dX6_ringOne_185 (by decide) (fun _ => ?_) (fun c_19 => absurd (by decide) c_19)
  refine lv_iload_n hx hb dX6_ringOne_210 rfl (lv_at hl 1 rfl) ?_
  have hP9 := hP.sub (ws' := [(h0, .inr (11, [.int th, .int 0, .int 0, .int 0, .ref rq, .ref sbq])), (rq, .inl (ci, 119, .inl f_16))]) [0, 1] rfl
  have hD9 := hD.sub (ws' := [(h0, .inr (11, [.int th, .int 0, .int 0, .int 0, .ref rq, .ref sbq])), (rq, .inl (ci, 119, .inl f_16))]) [0, 1] (by decide) rfl
  have hK9 := hK.sub (tys' := [(ci, .int)]) [0] rfl
  exact W.iret (v := 0) hx hb hr (fun t ht hW => ⟨⟨0, (), rfl, rfl, f_16, by rw [ht]; exact hP9, va_K.moved hW.alike hK9, hD9⟩, hS.F ht⟩) hS.2.2 dX6_ringOne_211
def v_c_M_ring_t : List Cond := .code yX6_ring cX6_ring 2 (some .int) :: ([Cond.fieldLink RX6 20 "HotelOfBellsModel" "thrown" "I", Cond.code yX6_isIn cX6_isIn 3 (some .boolean), Cond.methodLink RX6 27 yX6_isIn, Cond.static yX6_isIn, Cond.initialized RX6, Cond.code yX6_ringOne cX6_ringOne 4 (some .int), Cond.fieldLink RX6 34 "HotelOfBellsModel" "guests" "I", Cond.fieldLink RX6 9 "HotelOfBellsModel" "row" "[I", Cond.code yX6_power cX6_power 3 (some .int), Cond.methodLink RX6 90 yX6_power, Cond.static yX6_power, Cond.fieldLink RX6 24 "HotelOfBellsModel" "floors" "I", Cond.fieldLink RX6 31 "HotelOfBellsModel" "lifts" "I", Cond.methodLink RX6 130 yX6_ringOne, Cond.instanceMethod yX6_ringOne, Cond.selects RX6 yX6_ringOne yX6_ringOne] ++ (wsX60 ++ []))
theorem u_c_M_ring_t_X6 : ∀ w ∈ wsX60, w ∈ v_c_M_ring_t := fun _ h => List.mem_cons_of_mem _ (List.mem_append_right _ (List.mem_append_left _ h))
theorem gg_c_M_ring_t_c_isIn_t : GoodIn v_c_M_ring_t v_c_isIn_t := goodIn_r _ [2] (by rfl) (by decide +kernel)
theorem gg_c_M_ring_t_c_ringOne : GoodIn v_c_M_ring_t v_c_ringOne := goodIn_r _ [6, 7, 8, 9, 10, 11, 5, 12, 13, 17, 18, 19, 20, 21, 22] (by rfl) (by decide +kernel)
set_option maxHeartbeats 4000000 in
set_option maxRecDepth 100000 in
theorem c_M_ring_t (l : Launch) (hl9 : l.stackTraces = false) (dC : Nat → ClassId) (dI : Nat → Nat → Nat) (tE : Nat) (h0 : Nat) (rq : Nat) (sbq : Nat) (th : Int32) (ci : ClassId) (fr : Nat → Int32) (p0 : Int32) (sz : Nat) (h1 : ¬ p0 < 0) (h2 : ¬ 3 < p0) : Met l yX6_ring v_c_M_ring_t ({ frames := 2, cells := 0, slots := 0, locals := 45 }) (va_Pc [.ref h0, .int p0] (Pre0 dC dI tE sz [(ci, .int)] [(h0, .inr (11, [.int th, .int 0, .int 0, .int 0, .ref rq, .ref sbq])), (rq, .inl (ci, 119, .inl fr))])) (va_Qi (fun (r : Int32) (_ : Unit) => r = 0) (fun _ t => ∃ (fx0 : Nat → Int32), Pst dC dI [(ci, .int)] (va_A [(h0, .inr (11, [.int th, .int 0, .int 0, .int 0, .ref rq, .ref sbq])), (rq, .inl (ci, 119, .inl fr))] sz) [(h0, .inr (11, [.int 0, .int 0, .int 0, .int 0, .ref rq, .ref sbq])), (rq, .inl (ci, 119, .inl fx0))] t) (va_A [(h0, .inr (11, [.int th, .int 0, .int 0, .int 0, .ref rq, .ref sbq])), (rq, .inl (ci, 119, .inl fr))] sz)) 0 0 (va_A [(h0, .inr (11, [.int th, .int 0, .int 0, .int 0, .ref rq, .ref sbq])), (rq, .inl (ci, 119, .inl fr))] sz) := by
  refine Met.ofW (cc := cX6_ring) (maxL := 2) (ret := (some .int)) (by decide) rfl ?_
  intro p e s m args below meth c s₁ B hml hv
  obtain ⟨rfl, hsz, hP, hK, hD0, hT⟩ := hv
  have hx := B.exec
  have hb := B.bytes
  have hr := B.returns
  have hts := atoms_spec (ws := v_c_M_ring_t) B.pre
  have hown : s.vm.findClass RX6 = some m.cls := findClass_of_methodNamed B.named
  have hlocks := B.notSynchronized
  subst hsz
  have hD := hD0.self (sz := s.heap.size)
  generalize hAe : va_A [(h0, .inr (11, [.int th, .int 0, .int 0, .int 0, .ref rq, .ref sbq])), (rq, .inl (ci, 119, .inl fr))] s.heap.size = A at hD hT ⊢
  have hA : ∀ q : Nat, s.heap.size ≤ q → A q := fun q h => by rw [← hAe]; exact Or.inr h
  have hS : va_S A s.heap s.heap [] := va_S.rf
  have hl := lv_entry ([.ref h0, .int p0]) (n := 2) (Nat.le_of_ble_eq_true rfl)
  rw [lg_entry_eq]
  generalize (lg_sl ([.ref h0, .int p0]) ++ List.replicate (2 - (lg_sl ([.ref h0, .int p0])).length) Slot.unset).toArray = ls at hl ⊢
  have hl : lv_has ls 2 [(0, .ref h0), (1, .int p0)] := hl
  refine lv_aload_n hx hb dX6_ring_0 rfl (lv_at hl 0 rfl) ?_
  refine lv_iconst (v := 0) hx hb dX6_ring_1 (by decide) ?_
  refine va_put (D := (dC, dI)) (ci := 11) (v := .int 0) (ty := .int) (C := RX6) (T := TX6) (N := 6) hx hb hts u_c_M_ring_t_X6 tyX6 tyX6_ok nmX6 hown hK hP hD hS 0 rfl rfl 0 (by decide) (hts (.fieldLink RX6 20 "HotelOfBellsModel" "thrown" "I") (List.mem_of_getElem? (i := 1) rfl)) (fun _ h9 => h9) rfl (by decide +kernel) rfl rfl (Nat.le_of_ble_eq_true rfl) dX6_ring_2 (fun H locs hP hD hS => ?_)
  have hP : va_P (dC, dI) vwCl [(h0, .inr (11, [.int 0, .int 0, .int 0, .int 0, .ref rq, .ref sbq])), (rq, .inl (ci, 119, .inl fr))] H := hP
  have hD : va_D A [(h0, .inr (11, [.int 0, .int 0, .int 0, .int 0, .ref rq, .ref sbq])), (rq, .inl (ci, 119, .inl fr))] := hD
  refine lv_iload_n hx hb dX6_ring_5 rfl (lv_at hl 1 rfl) ?_
  refine lv_iconst (v := 0) hx hb dX6_ring_6 (by decide) ?_
  refine lv_iconst (v := 3) hx hb dX6_ring_7 (by decide) ?_
  have hPc := hP.sub (ws' := []) [] rfl
  have hDc := hD.sub (ws' := []) [] (by decide) rfl
  have hKc := hK.sub (tys' := []) [] rfl
  have hFc := va_free (wc := []) hD hS hA [] rfl
  refine va_calli (va_runS (As := [.int p0, .int 0, .int 3]) (rest := []) ⟨hx, hb, hml, hown, hts⟩ (c_isIn_t l hl9 dC dI tE p0 0 3 _ h1 h2) (va_cwS 3 hts (goodIn_app (goodIn_r _ [3, 4, 5] (by rfl) (by decide +kernel)) gg_c_M_ring_t_c_isIn_t) rfl rfl rfl (by decide +kernel) ⟨Nat.le_of_ble_eq_true rfl, Nat.le_of_ble_eq_true rfl⟩) ⟨Pre0.blind, Pre0.give hPc hKc hDc hT hS hFc⟩ rfl rfl hl.1 rfl (lv_room (Nat.le_of_ble_eq_true rfl)) dX6_ring_8 ⟨Nat.le_of_ble_eq_true rfl, Nat.le_of_ble_eq_true rfl⟩) hS (fun q _ h => hFc q h) hFc (fun r_1 u t H1 locs ht hvm hw hB hz1 hk1 hS => ?_)
  obtain ⟨hP1, hK1, hD1⟩ := hB
  rw [ht] at hP1
  have hK1 := va_K.moved hvm.symm hK1
  obtain ⟨hP, hD⟩ := va_join (wr := [(h0, .inr (11, [.int 0, .int 0, .int 0, .int 0, .ref rq, .ref sbq])), (rq, .inl (ci, 119, .inl fr))]) (w1 := []) hP hD [] [0, 1] rfl rfl (by decide) (by decide) hk1 hFc hP1 hD1
  generalize H1 = H at hP hS ⊢
  have hP : va_P (dC, dI) vwCl [(h0, .inr (11, [.int 0, .int 0, .int 0, .int 0, .ref rq, .ref sbq])), (rq, .inl (ci, 119, .inl fr))] H := hP
  have hD : va_D A [(h0, .inr (11, [.int 0, .int 0, .int 0, .int 0, .ref rq, .ref sbq])), (rq, .inl (ci, 119, .inl fr))] := hD
  refine W.widen (k := 0) (n := 0) (by omega) (by omega) ?_
  obtain rfl : r_1 = 1 := hw
  refine lv_if_eq (tgt := 24) hx hb dX6_ring_11 (by decide) (fun c_2 => absurd c_2 (by decide)) (fun _ => ?_)
  refine lv_aload_n hx hb dX6_ring_14 rfl (lv_at hl 0 rfl) ?_
  refine lv_iload_n hx hb dX6_ring_15 rfl (lv_at hl 1 rfl) ?_
  refine lv_iconst (v := 1) hx hb dX6_ring_16 (by decide) ?_
  refine lv_iadd hx hb dX6_ring_17 ?_
  refine lv_topi (fun x_3 e_4 => ?_)
  have hPc := hP.sub (ws' := [(h0, .inr (11, [.int 0, .int 0, .int 0, .int 0, .ref rq, .ref sbq])), (rq, .inl (ci, 119, .inl fr))]) [0, 1] rfl
  have hDc := hD.sub (ws' := [(h0, .inr (11, [.int 0, .int 0, .int 0, .int 0, .ref rq, .ref sbq])), (rq, .inl (ci, 119, .inl fr))]) [0, 1] (by decide) rfl
  have hKc := hK.sub (tys' := [(ci, .int)]) [0] rfl
  have hFc := va_free (wc := [(h0, .inr (11, [.int 0, .int 0, .int 0, .int 0, .ref rq, .ref sbq])), (rq, .inl (ci, 119, .inl fr))]) hD hS hA [0, 1] rfl
  refine va_calli (va_runV (As := [.int x_3]) (rest := []) ⟨hx, hb, hml, hown, hts⟩ (c_ringOne l hl9 dC dI tE h0 rq sbq 0 ci fr x_3 _ ) (cwV 1 hts (goodIn_app (goodIn_r _ [14, 15, 16, 5] (by rfl) (by decide +kernel)) gg_c_M_ring_t_c_ringOne) rfl rfl rfl (by decide +kernel) ⟨Nat.le_of_ble_eq_true rfl, Nat.le_of_ble_eq_true rfl⟩) ⟨Pre0.blind, va_recv hKc hPc (ci := 11) (q0 := 0) rfl rfl, Pre0.give hPc hKc hDc hT hS hFc⟩ rfl rfl hl.1 rfl (lv_room (Nat.le_of_ble_eq_true rfl)) dX6_ring_18 ⟨Nat.le_of_ble_eq_true rfl, Nat.le_of_ble_eq_true rfl⟩) hS (fun q _ h => hFc q h) hFc (fun r_5 u t H1 locs ht hvm hw hB hz1 hk1 hS => ?_)
  obtain ⟨fx_6, hP1, hK1, hD1⟩ := hB
  rw [ht] at hP1
  have hK1 := va_K.moved hvm.symm hK1
  obtain ⟨hP, hD⟩ := va_join (wr := []) (w1 := [(h0, .inr (11, [.int 0, .int 0, .int 0, .int 0, .ref rq, .ref sbq])), (rq, .inl (ci, 119, .inl fx_6))]) hP hD [0, 1] [] rfl rfl (by decide) (by decide) hk1 hFc hP1 hD1
  generalize H1 = H at hP hS ⊢
  have hP : va_P (dC, dI) vwCl [(h0, .inr (11, [.int 0, .int 0, .int 0, .int 0, .ref rq, .ref sbq])), (rq, .inl (ci, 119, .inl fx_6))] H := hP
  have hD : va_D A [(h0, .inr (11, [.int 0, .int 0, .int 0, .int 0, .ref rq, .ref sbq])), (rq, .inl (ci, 119, .inl fx_6))] := hD
  refine W.widen (k := 0) (n := 0) (by omega) (by omega) ?_
  obtain rfl : r_5 = 0 := hw
  refine lv_goto (tgt := 29) hx hb dX6_ring_21 (by decide) ?_
  have hP9 := hP.sub (ws' := [(h0, .inr (11, [.int 0, .int 0, .int 0, .int 0, .ref rq, .ref sbq])), (rq, .inl (ci, 119, .inl fx_6))]) [0, 1] rfl
  have hD9 := hD.sub (ws' := [(h0, .inr (11, [.int 0, .int 0, .int 0, .int 0, .ref rq, .ref sbq])), (rq, .inl (ci, 119, .inl fx_6))]) [0, 1] (by decide) rfl
  have hK9 := hK.sub (tys' := [(ci, .int)]) [0] rfl
  exact W.iret (v := 0) hx hb hr (fun t ht hW => ⟨⟨0, (), rfl, rfl, fx_6, by rw [ht]; exact hP9, va_K.moved hW.alike hK9, hD9⟩, hS.F ht⟩) hS.2.2 dX6_ring_29
def v_c_M_ring_f : List Cond := .code yX6_ring cX6_ring 2 (some .int) :: ([Cond.fieldLink RX6 20 "HotelOfBellsModel" "thrown" "I", Cond.code yX6_isIn cX6_isIn 3 (some .boolean), Cond.methodLink RX6 27 yX6_isIn, Cond.static yX6_isIn, Cond.initialized RX6, Cond.code yX6_fail cX6_fail 2 (some .int), Cond.methodLink RX6 45 yX6_fail, Cond.instanceMethod yX6_fail, Cond.selects RX6 yX6_fail yX6_fail] ++ (wsX60 ++ []))
theorem u_c_M_ring_f_X6 : ∀ w ∈ wsX60, w ∈ v_c_M_ring_f := fun _ h => List.mem_cons_of_mem _ (List.mem_append_right _ (List.mem_append_left _ h))
theorem gg_c_M_ring_f_c_isIn_f : GoodIn v_c_M_ring_f v_c_isIn_f := goodIn_r _ [2] (by rfl) (by decide +kernel)
theorem gg_c_M_ring_f_c_M_fail : GoodIn v_c_M_ring_f v_c_M_fail := goodIn_r _ [6, 1, 10, 11, 12, 13, 14, 15] (by rfl) (by decide +kernel)
set_option maxHeartbeats 4000000 in
set_option maxRecDepth 100000 in
theorem c_M_ring_f (l : Launch) (hl9 : l.stackTraces = false) (dC : Nat → ClassId) (dI : Nat → Nat → Nat) (tE : Nat) (h0 : Nat) (rq : Nat) (sbq : Nat) (th : Int32) (p0 : Int32) (sz : Nat) (h : p0 < 0 ∨ 3 < p0) : Met l yX6_ring v_c_M_ring_f ({ frames := 1, cells := 0, slots := 0, locals := 22 }) (va_Pc [.ref h0, .int p0] (Pre0 dC dI tE sz [] [(h0, .inr (11, [.int th, .int 0, .int 0, .int 0, .ref rq, .ref sbq]))])) (va_Qi (fun (r : Int32) (_ : Unit) => r = 0) (fun _ t => Pst dC dI [] (va_A [(h0, .inr (11, [.int th, .int 0, .int 0, .int 0, .ref rq, .ref sbq]))] sz) [(h0, .inr (11, [.int 1, .int 0, .int 0, .int 0, .ref rq, .ref sbq]))] t) (va_A [(h0, .inr (11, [.int th, .int 0, .int 0, .int 0, .ref rq, .ref sbq]))] sz)) 0 0 (va_A [(h0, .inr (11, [.int th, .int 0, .int 0, .int 0, .ref rq, .ref sbq]))] sz) := by
  refine Met.ofW (cc := cX6_ring) (maxL := 2) (ret := (some .int)) (by decide) rfl ?_
  intro p e s m args below meth c s₁ B hml hv
  obtain ⟨rfl, hsz, hP, hK, hD0, hT⟩ := hv
  have hx := B.exec
  have hb := B.bytes
  have hr := B.returns
  have hts := atoms_spec (ws := v_c_M_ring_f) B.pre
  have hown : s.vm.findClass RX6 = some m.cls := findClass_of_methodNamed B.named
  have hlocks := B.notSynchronized
  subst hsz
  have hD := hD0.self (sz := s.heap.size)
  generalize hAe : va_A [(h0, .inr (11, [.int th, .int 0, .int 0, .int 0, .ref rq, .ref sbq]))] s.heap.size = A at hD hT ⊢
  have hA : ∀ q : Nat, s.heap.size ≤ q → A q := fun q h => by rw [← hAe]; exact Or.inr h
  have hS : va_S A s.heap s.heap [] := va_S.rf
  have hl := lv_entry ([.ref h0, .int p0]) (n := 2) (Nat.le_of_ble_eq_true rfl)
  rw [lg_entry_eq]
  generalize (lg_sl ([.ref h0, .int p0]) ++ List.replicate (2 - (lg_sl ([.ref h0, .int p0])).length) Slot.unset).toArray = ls at hl ⊢
  have hl : lv_has ls 2 [(0, .ref h0), (1, .int p0)] := hl
  refine lv_aload_n hx hb dX6_ring_0 rfl (lv_at hl 0 rfl) ?_
  refine lv_iconst (v := 0) hx hb dX6_ring_1 (by decide) ?_
  refine va_put (D := (dC, dI)) (ci := 11) (v := .int 0) (ty := .int) (C := RX6) (T := TX6) (N := 6) hx hb hts u_c_M_ring_f_X6 tyX6 tyX6_ok nmX6 hown hK hP hD hS 0 rfl rfl 0 (by decide) (hts (.fieldLink RX6 20 "HotelOfBellsModel" "thrown" "I") (List.mem_of_getElem? (i := 1) rfl)) (fun _ h9 => h9) rfl (by decide +kernel) rfl rfl (Nat.le_of_ble_eq_true rfl) dX6_ring_2 (fun H locs hP hD hS => ?_)
  have hP : va_P (dC, dI) vwCl [(h0, .inr (11, [.int 0, .int 0, .int 0, .int 0, .ref rq, .ref sbq]))] H := hP
  have hD : va_D A [(h0, .inr (11, [.int 0, .int 0, .int 0, .int 0, .ref rq, .ref sbq]))] := hD
  refine lv_iload_n hx hb dX6_ring_5 rfl (lv_at hl 1 rfl) ?_
  refine lv_iconst (v := 0) hx hb dX6_ring_6 (by decide) ?_
  refine lv_iconst (v := 3) hx hb dX6_ring_7 (by decide) ?_
  have hPc := hP.sub (ws' := []) [] rfl
  have hDc := hD.sub (ws' := []) [] (by decide) rfl
  have hKc := hK.sub (tys' := []) [] rfl
  have hFc := va_free (wc := []) hD hS hA [] rfl
  refine va_calli (va_runS (As := [.int p0, .int 0, .int 3]) (rest := []) ⟨hx, hb, hml, hown, hts⟩ (c_isIn_f l hl9 dC dI tE p0 0 3 _ h) (va_cwS 3 hts (goodIn_app (goodIn_r _ [3, 4, 5] (by rfl) (by decide +kernel)) gg_c_M_ring_f_c_isIn_f) rfl rfl rfl (by decide +kernel) ⟨Nat.le_of_ble_eq_true rfl, Nat.le_of_ble_eq_true rfl⟩) ⟨Pre0.blind, Pre0.give hPc hKc hDc hT hS hFc⟩ rfl rfl hl.1 rfl (lv_room (Nat.le_of_ble_eq_true rfl)) dX6_ring_8 ⟨Nat.le_of_ble_eq_true rfl, Nat.le_of_ble_eq_true rfl⟩) hS (fun q _ h => hFc q h) hFc (fun r_1 u t H1 locs ht hvm hw hB hz1 hk1 hS => ?_)
  obtain ⟨hP1, hK1, hD1⟩ := hB
  rw [ht] at hP1
  have hK1 := va_K.moved hvm.symm hK1
  obtain ⟨hP, hD⟩ := va_join (wr := [(h0, .inr (11, [.int 0, .int 0, .int 0, .int 0, .ref rq, .ref sbq]))]) (w1 := []) hP hD [] [0] rfl rfl (by decide) (by decide) hk1 hFc hP1 hD1
  generalize H1 = H at hP hS ⊢
  have hP : va_P (dC, dI) vwCl [(h0, .inr (11, [.int 0, .int 0, .int 0, .int 0, .ref rq, .ref sbq]))] H := hP
  have hD : va_D A [(h0, .inr (11, [.int 0, .int 0, .int 0, .int 0, .ref rq, .ref sbq]))] := hD
  refine W.widen (k := 0) (n := 0) (by omega) (by omega) ?_
  obtain rfl : r_1 = 0 := hw
  refine lv_if_eq (tgt := 24) hx hb dX6_ring_11 (by decide) (fun _ => ?_) (fun c_2 => absurd (by decide) c_2)
  refine lv_aload_n hx hb dX6_ring_24 rfl (lv_at hl 0 rfl) ?_
  refine lv_iconst (v := 1) hx hb dX6_ring_25 (by decide) ?_
  have hPc := hP.sub (ws' := [(h0, .inr (11, [.int 0, .int 0, .int 0, .int 0, .ref rq, .ref sbq]))]) [0] rfl
  have hDc := hD.sub (ws' := [(h0, .inr (11, [.int 0, .int 0, .int 0, .int 0, .ref rq, .ref sbq]))]) [0] (by decide) rfl
  have hKc := hK.sub (tys' := []) [] rfl
  have hFc := va_free (wc := [(h0, .inr (11, [.int 0, .int 0, .int 0, .int 0, .ref rq, .ref sbq]))]) hD hS hA [0] rfl
  refine va_calli (va_runV (As := [.int 1]) (rest := []) ⟨hx, hb, hml, hown, hts⟩ (c_M_fail l hl9 dC dI tE h0 rq sbq 0 0 0 0 1 _ ) (cwV 1 hts (goodIn_app (goodIn_r _ [7, 8, 9, 5] (by rfl) (by decide +kernel)) gg_c_M_ring_f_c_M_fail) rfl rfl rfl (by decide +kernel) ⟨Nat.le_of_ble_eq_true rfl, Nat.le_of_ble_eq_true rfl⟩) ⟨Pre0.blind, va_recv hKc hPc (ci := 11) (q0 := 0) rfl rfl, Pre0.give hPc hKc hDc hT hS hFc⟩ rfl rfl hl.1 rfl (lv_room (Nat.le_of_ble_eq_true rfl)) dX6_ring_26 ⟨Nat.le_of_ble_eq_true rfl, Nat.le_of_ble_eq_true rfl⟩) hS (fun q _ h => hFc q h) hFc (fun r_3 u t H1 locs ht hvm hw hB hz1 hk1 hS => ?_)
  obtain ⟨hP1, hK1, hD1⟩ := hB
  rw [ht] at hP1
  have hK1 := va_K.moved hvm.symm hK1
  obtain ⟨hP, hD⟩ := va_join (wr := []) (w1 := [(h0, .inr (11, [.int 1, .int 0, .int 0, .int 0, .ref rq, .ref sbq]))]) hP hD [0] [] rfl rfl (by decide) (by decide) hk1 hFc hP1 hD1
  generalize H1 = H at hP hS ⊢
  have hP : va_P (dC, dI) vwCl [(h0, .inr (11, [.int 1, .int 0, .int 0, .int 0, .ref rq, .ref sbq]))] H := hP
  have hD : va_D A [(h0, .inr (11, [.int 1, .int 0, .int 0, .int 0, .ref rq, .ref sbq]))] := hD
  refine W.widen (k := 0) (n := 0) (by omega) (by omega) ?_
  obtain rfl : r_3 = 0 := hw
  have hP9 := hP.sub (ws' := [(h0, .inr (11, [.int 1, .int 0, .int 0, .int 0, .ref rq, .ref sbq]))]) [0] rfl
  have hD9 := hD.sub (ws' := [(h0, .inr (11, [.int 1, .int 0, .int 0, .int 0, .ref rq, .ref sbq]))]) [0] (by decide) rfl
  have hK9 := hK.sub (tys' := []) [] rfl
  exact W.iret (v := 0) hx hb hr (fun t ht hW => ⟨⟨0, (), rfl, rfl, by rw [ht]; exact hP9, va_K.moved hW.alike hK9, hD9⟩, hS.F ht⟩) hS.2.2 dX6_ring_29
def v_c_M_wouldTurn_t : List Cond := .code yX6_wouldTurn cX6_wouldTurn 5 (some .int) :: ([Cond.fieldLink RX6 20 "HotelOfBellsModel" "thrown" "I", Cond.code yX6_isIn cX6_isIn 3 (some .boolean), Cond.methodLink RX6 27 yX6_isIn, Cond.static yX6_isIn, Cond.initialized RX6, Cond.fieldLink RX6 9 "HotelOfBellsModel" "row" "[I", Cond.code yX6_power cX6_power 3 (some .int), Cond.methodLink RX6 90 yX6_power, Cond.static yX6_power, Cond.fieldLink RX6 24 "HotelOfBellsModel" "floors" "I"] ++ (wsX60 ++ []))
theorem u_c_M_wouldTurn_t_X6 : ∀ w ∈ wsX60, w ∈ v_c_M_wouldTurn_t := fun _ h => List.mem_cons_of_mem _ (List.mem_append_right _ (List.mem_append_left _ h))
theorem gg_c_M_wouldTurn_t_c_isIn_t : GoodIn v_c_M_wouldTurn_t v_c_isIn_t := goodIn_r _ [2] (by rfl) (by decide +kernel)
theorem gg_c_M_wouldTurn_t_c_power_5 : GoodIn v_c_M_wouldTurn_t v_c_power_5 := goodIn_r _ [7] (by rfl) (by decide +kernel)
set_option maxHeartbeats 4000000 in
set_option maxRecDepth 100000 in
theorem c_M_wouldTurn_t (l : Launch) (hl9 : l.stackTraces = false) (dC : Nat → ClassId) (dI : Nat → Nat → Nat) (tE : Nat) (h0 : Nat) (rq : Nat) (sbq : Nat) (th : Int32) (ci : ClassId) (fr : Nat → Int32) (p0 : Int32) (sz : Nat) (h1 : ¬ p0 < 0) (h2 : ¬ 3 < p0) : Met l yX6_wouldTurn v_c_M_wouldTurn_t ({ frames := 1, cells := 0, slots := 0, locals := 22 }) (va_Pc [.ref h0, .int p0] (Pre0 dC dI tE sz [(ci, .int)] [(h0, .inr (11, [.int th, .int 0, .int 0, .int 0, .ref rq, .ref sbq])), (rq, .inl (ci, 119, .inl fr))])) (va_Qi (fun (r : Int32) (_ : Unit) => r = 0) (fun _ t => ∃ (fx0 : Nat → Int32), Pst dC dI [(ci, .int)] (va_A [(h0, .inr (11, [.int th, .int 0, .int 0, .int 0, .ref rq, .ref sbq])), (rq, .inl (ci, 119, .inl fr))] sz) [(h0, .inr (11, [.int 0, .int 0, .int 0, .int 0, .ref rq, .ref sbq])), (rq, .inl (ci, 119, .inl fx0))] t) (va_A [(h0, .inr (11, [.int th, .int 0, .int 0, .int 0, .ref rq, .ref sbq])), (rq, .inl (ci, 119, .inl fr))] sz)) 0 0 (va_A [(h0, .inr (11, [.int th, .int 0, .int 0, .int 0, .ref rq, .ref sbq])), (rq, .inl (ci, 119, .inl fr))] sz) := by
  refine Met.ofW (cc := cX6_wouldTurn) (maxL := 5) (ret := (some .int)) (by decide) rfl ?_
  intro p e s m args below meth c s₁ B hml hv
  obtain ⟨rfl, hsz, hP, hK, hD0, hT⟩ := hv
  have hx := B.exec
  have hb := B.bytes
  have hr := B.returns
  have hts := atoms_spec (ws := v_c_M_wouldTurn_t) B.pre
  have hown : s.vm.findClass RX6 = some m.cls := findClass_of_methodNamed B.named
  have hlocks := B.notSynchronized
  subst hsz
  have hD := hD0.self (sz := s.heap.size)
  generalize hAe : va_A [(h0, .inr (11, [.int th, .int 0, .int 0, .int 0, .ref rq, .ref sbq])), (rq, .inl (ci, 119, .inl fr))] s.heap.size = A at hD hT ⊢
  have hA : ∀ q : Nat, s.heap.size ≤ q → A q := fun q h => by rw [← hAe]; exact Or.inr h
  have hS : va_S A s.heap s.heap [] := va_S.rf
  have hl := lv_entry ([.ref h0, .int p0]) (n := 5) (Nat.le_of_ble_eq_true rfl)
  rw [lg_entry_eq]
  generalize (lg_sl ([.ref h0, .int p0]) ++ List.replicate (5 - (lg_sl ([.ref h0, .int p0])).length) Slot.unset).toArray = ls at hl ⊢
  have hl : lv_has ls 5 [(0, .ref h0), (1, .int p0)] := hl
  refine lv_aload_n hx hb dX6_wouldTurn_0 rfl (lv_at hl 0 rfl) ?_
  refine lv_iconst (v := 0) hx hb dX6_wouldTurn_1 (by decide) ?_
  refine va_put (D := (dC, dI)) (ci := 11) (v := .int 0) (ty := .int) (C := RX6) (T := TX6) (N := 6) hx hb hts u_c_M_wouldTurn_t_X6 tyX6 tyX6_ok nmX6 hown hK hP hD hS 0 rfl rfl 0 (by decide) (hts (.fieldLink RX6 20 "HotelOfBellsModel" "thrown" "I") (List.mem_of_getElem? (i := 1) rfl)) (fun _ h9 => h9) rfl (by decide +kernel) rfl rfl (Nat.le_of_ble_eq_true rfl) dX6_wouldTurn_2 (fun H locs hP hD hS => ?_)
  have hP : va_P (dC, dI) vwCl [(h0, .inr (11, [.int 0, .int 0, .int 0, .int 0, .ref rq, .ref sbq])), (rq, .inl (ci, 119, .inl fr))] H := hP
  have hD : va_D A [(h0, .inr (11, [.int 0, .int 0, .int 0, .int 0, .ref rq, .ref sbq])), (rq, .inl (ci, 119, .inl fr))] := hD
  refine lv_iload_n hx hb dX6_wouldTurn_5 rfl (lv_at hl 1 rfl) ?_
  refine lv_iconst (v := 0) hx hb dX6_wouldTurn_6 (by decide) ?_
  refine lv_iconst (v := 3) hx hb dX6_wouldTurn_7 (by decide) ?_
  have hPc := hP.sub (ws' := []) [] rfl
  have hDc := hD.sub (ws' := []) [] (by decide) rfl
  have hKc := hK.sub (tys' := []) [] rfl
  have hFc := va_free (wc := []) hD hS hA [] rfl
  refine va_calli (va_runS (As := [.int p0, .int 0, .int 3]) (rest := []) ⟨hx, hb, hml, hown, hts⟩ (c_isIn_t l hl9 dC dI tE p0 0 3 _ h1 h2) (va_cwS 3 hts (goodIn_app (goodIn_r _ [3, 4, 5] (by rfl) (by decide +kernel)) gg_c_M_wouldTurn_t_c_isIn_t) rfl rfl rfl (by decide +kernel) ⟨Nat.le_of_ble_eq_true rfl, Nat.le_of_ble_eq_true rfl⟩) ⟨Pre0.blind, Pre0.give hPc hKc hDc hT hS hFc⟩ rfl rfl hl.1 rfl (lv_room (Nat.le_of_ble_eq_true rfl)) dX6_wouldTurn_8 ⟨Nat.le_of_ble_eq_true rfl, Nat.le_of_ble_eq_true rfl⟩) hS (fun q _ h => hFc q h) hFc (fun r_1 u t H1 locs ht hvm hw hB hz1 hk1 hS => ?_)
  obtain ⟨hP1, hK1, hD1⟩ := hB
  rw [ht] at hP1
  have hK1 := va_K.moved hvm.symm hK1
  obtain ⟨hP, hD⟩ := va_join (wr := [(h0, .inr (11, [.int 0, .int 0, .int 0, .int 0, .ref rq, .ref sbq])), (rq, .inl (ci, 119, .inl fr))]) (w1 := []) hP hD [] [0, 1] rfl rfl (by decide) (by decide) hk1 hFc hP1 hD1
  generalize H1 = H at hP hS ⊢
  have hP : va_P (dC, dI) vwCl [(h0, .inr (11, [.int 0, .int 0, .int 0, .int 0, .ref rq, .ref sbq])), (rq, .inl (ci, 119, .inl fr))] H := hP
  have hD : va_D A [(h0, .inr (11, [.int 0, .int 0, .int 0, .int 0, .ref rq, .ref sbq])), (rq, .inl (ci, 119, .inl fr))] := hD
  refine W.widen (k := 0) (n := 0) (by omega) (by omega) ?_
  obtain rfl : r_1 = 1 := hw
  refine lv_if_ne (tgt := 20) hx hb dX6_wouldTurn_11 (by decide) (fun _ => ?_) (fun c_2 => absurd c_2 (by decide))
  refine lv_aload_n hx hb dX6_wouldTurn_20 rfl (lv_at hl 0 rfl) ?_
  refine va_get (D := (dC, dI)) (ci := 11) (v := .ref rq) (C := RX6) (T := TX6) (N := 6) hx hb hts u_c_M_wouldTurn_t_X6 hown hK hP 0 rfl rfl 4 (by decide) (hts (.fieldLink RX6 9 "HotelOfBellsModel" "row" "[I") (List.mem_of_getElem? (i := 6) rfl)) (fun _ h9 => h9) rfl dX6_wouldTurn_21 ?_
  refine lv_bipush (v := 116) hx hb dX6_wouldTurn_24 (by decide) ?_
  refine va_iald hx hb hK hP 1 0 rfl rfl (by unfold vp_in; decide) dX6_wouldTurn_26 ?_
  refine lv_topi (fun x_3 e_4 => ?_)
  refine lv_istore_n (lv' := [(2, .int x_3), (0, .ref h0), (1, .int p0)]) hx hb dX6_wouldTurn_27 rfl hl (by decide) rfl (fun ls hl => ?_)
  refine lv_aload_n hx hb dX6_wouldTurn_28 rfl (lv_at hl 1 rfl) ?_
  refine va_get (D := (dC, dI)) (ci := 11) (v := .ref rq) (C := RX6) (T := TX6) (N := 6) hx hb hts u_c_M_wouldTurn_t_X6 hown hK hP 0 rfl rfl 4 (by decide) (hts (.fieldLink RX6 9 "HotelOfBellsModel" "row" "[I") (List.mem_of_getElem? (i := 6) rfl)) (fun _ h9 => h9) rfl dX6_wouldTurn_29 ?_
  refine lv_bipush (v := 116) hx hb dX6_wouldTurn_32 (by decide) ?_
  refine lv_iload_n hx hb dX6_wouldTurn_34 rfl (lv_at hl 0 rfl) ?_
  refine lv_iconst (v := 5) hx hb dX6_wouldTurn_35 (by decide) ?_
  have hPc := hP.sub (ws' := []) [] rfl
  have hDc := hD.sub (ws' := []) [] (by decide) rfl
  have hKc := hK.sub (tys' := []) [] rfl
  have hFc := va_free (wc := []) hD hS hA [] rfl
  refine va_calli (va_runS (As := [.int 5]) (rest := [.int x_3, .int 116, .ref rq]) ⟨hx, hb, hml, hown, hts⟩ (c_power_5 l hl9 dC dI tE  _ ) (va_cwS 1 hts (goodIn_app (goodIn_r _ [8, 9, 5] (by rfl) (by decide +kernel)) gg_c_M_wouldTurn_t_c_power_5) rfl rfl rfl (by decide +kernel) ⟨Nat.le_of_ble_eq_true rfl, Nat.le_of_ble_eq_true rfl⟩) ⟨Pre0.blind, Pre0.give hPc hKc hDc hT hS hFc⟩ rfl rfl hl.1 rfl (lv_room (Nat.le_of_ble_eq_true rfl)) dX6_wouldTurn_36 ⟨Nat.le_of_ble_eq_true rfl, Nat.le_of_ble_eq_true rfl⟩) hS (fun q _ h => hFc q h) hFc (fun r_5 u t H1 locs ht hvm hw hB hz1 hk1 hS => ?_)
  obtain ⟨hP1, hK1, hD1⟩ := hB
  rw [ht] at hP1
  have hK1 := va_K.moved hvm.symm hK1
  obtain ⟨hP, hD⟩ := va_join (wr := [(h0, .inr (11, [.int 0, .int 0, .int 0, .int 0, .ref rq, .ref sbq])), (rq, .inl (ci, 119, .inl fr))]) (w1 := []) hP hD [] [0, 1] rfl rfl (by decide) (by decide) hk1 hFc hP1 hD1
  generalize H1 = H at hP hS ⊢
  have hP : va_P (dC, dI) vwCl [(h0, .inr (11, [.int 0, .int 0, .int 0, .int 0, .ref rq, .ref sbq])), (rq, .inl (ci, 119, .inl fr))] H := hP
  have hD : va_D A [(h0, .inr (11, [.int 0, .int 0, .int 0, .int 0, .ref rq, .ref sbq])), (rq, .inl (ci, 119, .inl fr))] := hD
  refine W.widen (k := 0) (n := 0) (by omega) (by omega) ?_
  obtain rfl : r_5 = 100000 := hw
  refine lv_irem hx hb dX6_wouldTurn_39 (by decide) ?_
  refine lv_topi (fun x_6 e_7 => ?_)
  refine lv_bipush (v := 10) hx hb dX6_wouldTurn_40 (by decide) ?_
  refine lv_imul hx hb dX6_wouldTurn_42 ?_
  refine lv_topi (fun x_8 e_9 => ?_)
  refine lv_iload_n hx hb dX6_wouldTurn_43 rfl (lv_at hl 2 rfl) ?_
  refine lv_iadd hx hb dX6_wouldTurn_44 ?_
  refine lv_topi (fun x_10 e_11 => ?_)
  refine lv_iconst (v := 1) hx hb dX6_wouldTurn_45 (by decide) ?_
  refine lv_iadd hx hb dX6_wouldTurn_46 ?_
  refine lv_topi (fun x_12 e_13 => ?_)
  refine va_iast hx hb hK hP hD hS 1 0 rfl rfl (by unfold vp_in; decide) dX6_wouldTurn_47 (fun H locs hP hD hS => ?_)
  obtain ⟨f_14, ef_14⟩ : ∃ z, z = upd fr (116 : Int32).toNatClampNeg x_12 := ⟨_, rfl⟩
  rw [← ef_14] at hP hD
  have hP : va_P (dC, dI) vwCl [(h0, .inr (11, [.int 0, .int 0, .int 0, .int 0, .ref rq, .ref sbq])), (rq, .inl (ci, 119, .inl f_14))] H := hP
  have hD : va_D A [(h0, .inr (11, [.int 0, .int 0, .int 0, .int 0, .ref rq, .ref sbq])), (rq, .inl (ci, 119, .inl f_14))] := hD
  refine lv_aload_n hx hb dX6_wouldTurn_48 rfl (lv_at hl 1 rfl) ?_
  refine va_get (D := (dC, dI)) (ci := 11) (v := .ref rq) (C := RX6) (T := TX6) (N := 6) hx hb hts u_c_M_wouldTurn_t_X6 hown hK hP 0 rfl rfl 4 (by decide) (hts (.fieldLink RX6 9 "HotelOfBellsModel" "row" "[I") (List.mem_of_getElem? (i := 6) rfl)) (fun _ h9 => h9) rfl dX6_wouldTurn_49 ?_
  refine lv_bipush (v := 117) hx hb dX6_wouldTurn_52 (by decide) ?_
  refine lv_dup2_11 hx hb dX6_wouldTurn_54 rfl rfl ?_
  refine va_iald hx hb hK hP 1 0 rfl rfl (by unfold vp_in; decide) dX6_wouldTurn_55 ?_
  refine lv_topi (fun x_15 e_16 => ?_)
  refine lv_iconst (v := 1) hx hb dX6_wouldTurn_56 (by decide) ?_
  refine lv_iadd hx hb dX6_wouldTurn_57 ?_
  refine lv_topi (fun x_17 e_18 => ?_)
  refine va_iast hx hb hK hP hD hS 1 0 rfl rfl (by unfold vp_in; decide) dX6_wouldTurn_58 (fun H locs hP hD hS => ?_)
  obtain ⟨f_19, ef_19⟩ : ∃ z, z = upd f_14 (117 : Int32).toNatClampNeg x_17 := ⟨_, rfl⟩
  rw [← ef_19] at hP hD
  have hP : va_P (dC, dI) vwCl [(h0, .inr (11, [.int 0, .int 0, .int 0, .int 0, .ref rq, .ref sbq])), (rq, .inl (ci, 119, .inl f_19))] H := hP
  have hD : va_D A [(h0, .inr (11, [.int 0, .int 0, .int 0, .int 0, .ref rq, .ref sbq])), (rq, .inl (ci, 119, .inl f_19))] := hD
  refine lv_iconst (v := 0) hx hb dX6_wouldTurn_59 (by decide) ?_
  refine lv_istore_n (lv' := [(3, .int 0), (2, .int x_3), (0, .ref h0), (1, .int p0)]) hx hb dX6_wouldTurn_60 rfl hl (by decide) rfl (fun ls hl => ?_)
  refine lv_iconst (v := 0) hx hb dX6_wouldTurn_61 (by decide) ?_
  refine lv_istore (lv' := [(4, .int 0), (3, .int 0), (2, .int x_3), (0, .ref h0), (1, .int p0)]) hx hb dX6_wouldTurn_62 hl (by decide) rfl (fun ls hl => ?_)
  refine lv_iload hx hb dX6_wouldTurn_64 (lv_at hl 0 rfl) ?_
  refine lv_aload_n hx hb dX6_wouldTurn_66 rfl (lv_at hl 3 rfl) ?_
  refine va_get (D := (dC, dI)) (ci := 11) (v := .int 0) (C := RX6) (T := TX6) (N := 6) hx hb hts u_c_M_wouldTurn_t_X6 hown hK hP 0 rfl rfl 1 (by decide) (hts (.fieldLink RX6 24 "HotelOfBellsModel" "floors" "I") (List.mem_of_getElem? (i := 10) rfl)) (fun _ h9 => h9) rfl dX6_wouldTurn_67 ?_
  refine lv_icmp_ge (tgt := 106) hx hb dX6_wouldTurn_70 (by decide) (fun _ => ?_) (fun c_20 => absurd (by decide) c_20)
  refine lv_aload_n hx hb dX6_wouldTurn_106 rfl (lv_at hl 3 rfl) ?_
  refine va_get (D := (dC, dI)) (ci := 11) (v := .ref rq) (C := RX6) (T := TX6) (N := 6) hx hb hts u_c_M_wouldTurn_t_X6 hown hK hP 0 rfl rfl 4 (by decide) (hts (.fieldLink RX6 9 "HotelOfBellsModel" "row" "[I") (List.mem_of_getElem? (i := 6) rfl)) (fun _ h9 => h9) rfl dX6_wouldTurn_107 ?_
  refine lv_bipush (v := 116) hx hb dX6_wouldTurn_110 (by decide) ?_
  refine lv_iload_n hx hb dX6_wouldTurn_112 rfl (lv_at hl 2 rfl) ?_
  refine va_iast hx hb hK hP hD hS 1 0 rfl rfl (by unfold vp_in; decide) dX6_wouldTurn_113 (fun H locs hP hD hS => ?_)
  obtain ⟨f_21, ef_21⟩ : ∃ z, z = upd f_19 (116 : Int32).toNatClampNeg x_3 := ⟨_, rfl⟩
  rw [← ef_21] at hP hD
  have hP : va_P (dC, dI) vwCl [(h0, .inr (11, [.int 0, .int 0, .int 0, .int 0, .ref rq, .ref sbq])), (rq, .inl (ci, 119, .inl f_21))] H := hP
  have hD : va_D A [(h0, .inr (11, [.int 0, .int 0, .int 0, .int 0, .ref rq, .ref sbq])), (rq, .inl (ci, 119, .inl f_21))] := hD
  refine lv_aload_n hx hb dX6_wouldTurn_114 rfl (lv_at hl 3 rfl) ?_
  refine va_get (D := (dC, dI)) (ci := 11) (v := .ref rq) (C := RX6) (T := TX6) (N := 6) hx hb hts u_c_M_wouldTurn_t_X6 hown hK hP 0 rfl rfl 4 (by decide) (hts (.fieldLink RX6 9 "HotelOfBellsModel" "row" "[I") (List.mem_of_getElem? (i := 6) rfl)) (fun _ h9 => h9) rfl dX6_wouldTurn_115 ?_
  refine lv_bipush (v := 117) hx hb dX6_wouldTurn_118 (by decide) ?_
  refine lv_dup2_11 hx hb dX6_wouldTurn_120 rfl rfl ?_
  refine va_iald hx hb hK hP 1 0 rfl rfl (by unfold vp_in; decide) dX6_wouldTurn_121 ?_
  refine lv_topi (fun x_22 e_23 => ?_)
  refine lv_iconst (v := 1) hx hb dX6_wouldTurn_122 (by decide) ?_
  refine lv_isub hx hb dX6_wouldTurn_123 ?_
  refine lv_topi (fun x_24 e_25 => ?_)
  refine va_iast hx hb hK hP hD hS 1 0 rfl rfl (by unfold vp_in; decide) dX6_wouldTurn_124 (fun H locs hP hD hS => ?_)
  obtain ⟨f_26, ef_26⟩ : ∃ z, z = upd f_21 (117 : Int32).toNatClampNeg x_24 := ⟨_, rfl⟩
  rw [← ef_26] at hP hD
  have hP : va_P (dC, dI) vwCl [(h0, .inr (11, [.int 0, .int 0, .int 0, .int 0, .ref rq, .ref sbq])), (rq, .inl (ci, 119, .inl f_26))] H := hP
  have hD : va_D A [(h0, .inr (11, [.int 0, .int 0, .int 0, .int 0, .ref rq, .ref sbq])), (rq, .inl (ci, 119, .inl f_26))] := hD
  refine lv_iload_n hx hb dX6_wouldTurn_125 rfl (lv_at hl 1 rfl) ?_
  have hP9 := hP.sub (ws' := [(h0, .inr (11, [.int 0, .int 0, .int 0, .int 0, .ref rq, .ref sbq])), (rq, .inl (ci, 119, .inl f_26))]) [0, 1] rfl
  have hD9 := hD.sub (ws' := [(h0, .inr (11, [.int 0, .int 0, .int 0, .int 0, .ref rq, .ref sbq])), (rq, .inl (ci, 119, .inl f_26))]) [0, 1] (by decide) rfl
  have hK9 := hK.sub (tys' := [(ci, .int)]) [0] rfl
  exact W.iret (v := 0) hx hb hr (fun t ht hW => ⟨⟨0, (), rfl, rfl, f_26, by rw [ht]; exact hP9, va_K.moved hW.alike hK9, hD9⟩, hS.F ht⟩) hS.2.2 dX6_wouldTurn_126
def v_c_M_wouldTurn_f : List Cond := .code yX6_wouldTurn cX6_wouldTurn 5 (some .int) :: ([Cond.fieldLink RX6 20 "HotelOfBellsModel" "thrown" "I", Cond.code yX6_isIn cX6_isIn 3 (some .boolean), Cond.methodLink RX6 27 yX6_isIn, Cond.static yX6_isIn, Cond.initialized RX6, Cond.code yX6_fail cX6_fail 2 (some .int), Cond.methodLink RX6 45 yX6_fail, Cond.instanceMethod yX6_fail, Cond.selects RX6 yX6_fail yX6_fail] ++ (wsX60 ++ []))
theorem u_c_M_wouldTurn_f_X6 : ∀ w ∈ wsX60, w ∈ v_c_M_wouldTurn_f := fun _ h => List.mem_cons_of_mem _ (List.mem_append_right _ (List.mem_append_left _ h))
theorem gg_c_M_wouldTurn_f_c_isIn_f : GoodIn v_c_M_wouldTurn_f v_c_isIn_f := goodIn_r _ [2] (by rfl) (by decide +kernel)
theorem gg_c_M_wouldTurn_f_c_M_fail : GoodIn v_c_M_wouldTurn_f v_c_M_fail := goodIn_r _ [6, 1, 10, 11, 12, 13, 14, 15] (by rfl) (by decide +kernel)
set_option maxHeartbeats 4000000 in
set_option maxRecDepth 100000 in
theorem c_M_wouldTurn_f (l : Launch) (hl9 : l.stackTraces = false) (dC : Nat → ClassId) (dI : Nat → Nat → Nat) (tE : Nat) (h0 : Nat) (rq : Nat) (sbq : Nat) (th : Int32) (p0 : Int32) (sz : Nat) (h : p0 < 0 ∨ 3 < p0) : Met l yX6_wouldTurn v_c_M_wouldTurn_f ({ frames := 1, cells := 0, slots := 0, locals := 22 }) (va_Pc [.ref h0, .int p0] (Pre0 dC dI tE sz [] [(h0, .inr (11, [.int th, .int 0, .int 0, .int 0, .ref rq, .ref sbq]))])) (va_Qi (fun (r : Int32) (_ : Unit) => r = 0) (fun _ t => Pst dC dI [] (va_A [(h0, .inr (11, [.int th, .int 0, .int 0, .int 0, .ref rq, .ref sbq]))] sz) [(h0, .inr (11, [.int 1, .int 0, .int 0, .int 0, .ref rq, .ref sbq]))] t) (va_A [(h0, .inr (11, [.int th, .int 0, .int 0, .int 0, .ref rq, .ref sbq]))] sz)) 0 0 (va_A [(h0, .inr (11, [.int th, .int 0, .int 0, .int 0, .ref rq, .ref sbq]))] sz) := by
  refine Met.ofW (cc := cX6_wouldTurn) (maxL := 5) (ret := (some .int)) (by decide) rfl ?_
  intro p e s m args below meth c s₁ B hml hv
  obtain ⟨rfl, hsz, hP, hK, hD0, hT⟩ := hv
  have hx := B.exec
  have hb := B.bytes
  have hr := B.returns
  have hts := atoms_spec (ws := v_c_M_wouldTurn_f) B.pre
  have hown : s.vm.findClass RX6 = some m.cls := findClass_of_methodNamed B.named
  have hlocks := B.notSynchronized
  subst hsz
  have hD := hD0.self (sz := s.heap.size)
  generalize hAe : va_A [(h0, .inr (11, [.int th, .int 0, .int 0, .int 0, .ref rq, .ref sbq]))] s.heap.size = A at hD hT ⊢
  have hA : ∀ q : Nat, s.heap.size ≤ q → A q := fun q h => by rw [← hAe]; exact Or.inr h
  have hS : va_S A s.heap s.heap [] := va_S.rf
  have hl := lv_entry ([.ref h0, .int p0]) (n := 5) (Nat.le_of_ble_eq_true rfl)
  rw [lg_entry_eq]
  generalize (lg_sl ([.ref h0, .int p0]) ++ List.replicate (5 - (lg_sl ([.ref h0, .int p0])).length) Slot.unset).toArray = ls at hl ⊢
  have hl : lv_has ls 5 [(0, .ref h0), (1, .int p0)] := hl
  refine lv_aload_n hx hb dX6_wouldTurn_0 rfl (lv_at hl 0 rfl) ?_
  refine lv_iconst (v := 0) hx hb dX6_wouldTurn_1 (by decide) ?_
  refine va_put (D := (dC, dI)) (ci := 11) (v := .int 0) (ty := .int) (C := RX6) (T := TX6) (N := 6) hx hb hts u_c_M_wouldTurn_f_X6 tyX6 tyX6_ok nmX6 hown hK hP hD hS 0 rfl rfl 0 (by decide) (hts (.fieldLink RX6 20 "HotelOfBellsModel" "thrown" "I") (List.mem_of_getElem? (i := 1) rfl)) (fun _ h9 => h9) rfl (by decide +kernel) rfl rfl (Nat.le_of_ble_eq_true rfl) dX6_wouldTurn_2 (fun H locs hP hD hS => ?_)
  have hP : va_P (dC, dI) vwCl [(h0, .inr (11, [.int 0, .int 0, .int 0, .int 0, .ref rq, .ref sbq]))] H := hP
  have hD : va_D A [(h0, .inr (11, [.int 0, .int 0, .int 0, .int 0, .ref rq, .ref sbq]))] := hD
  refine lv_iload_n hx hb dX6_wouldTurn_5 rfl (lv_at hl 1 rfl) ?_
  refine lv_iconst (v := 0) hx hb dX6_wouldTurn_6 (by decide) ?_
  refine lv_iconst (v := 3) hx hb dX6_wouldTurn_7 (by decide) ?_
  have hPc := hP.sub (ws' := []) [] rfl
  have hDc := hD.sub (ws' := []) [] (by decide) rfl
  have hKc := hK.sub (tys' := []) [] rfl
  have hFc := va_free (wc := []) hD hS hA [] rfl
  refine va_calli (va_runS (As := [.int p0, .int 0, .int 3]) (rest := []) ⟨hx, hb, hml, hown, hts⟩ (c_isIn_f l hl9 dC dI tE p0 0 3 _ h) (va_cwS 3 hts (goodIn_app (goodIn_r _ [3, 4, 5] (by rfl) (by decide +kernel)) gg_c_M_wouldTurn_f_c_isIn_f) rfl rfl rfl (by decide +kernel) ⟨Nat.le_of_ble_eq_true rfl, Nat.le_of_ble_eq_true rfl⟩) ⟨Pre0.blind, Pre0.give hPc hKc hDc hT hS hFc⟩ rfl rfl hl.1 rfl (lv_room (Nat.le_of_ble_eq_true rfl)) dX6_wouldTurn_8 ⟨Nat.le_of_ble_eq_true rfl, Nat.le_of_ble_eq_true rfl⟩) hS (fun q _ h => hFc q h) hFc (fun r_1 u t H1 locs ht hvm hw hB hz1 hk1 hS => ?_)
  obtain ⟨hP1, hK1, hD1⟩ := hB
  rw [ht] at hP1
  have hK1 := va_K.moved hvm.symm hK1
  obtain ⟨hP, hD⟩ := va_join (wr := [(h0, .inr (11, [.int 0, .int 0, .int 0, .int 0, .ref rq, .ref sbq]))]) (w1 := []) hP hD [] [0] rfl rfl (by decide) (by decide) hk1 hFc hP1 hD1
  generalize H1 = H at hP hS ⊢
  have hP : va_P (dC, dI) vwCl [(h0, .inr (11, [.int 0, .int 0, .int 0, .int 0, .ref rq, .ref sbq]))] H := hP
  have hD : va_D A [(h0, .inr (11, [.int 0, .int 0, .int 0, .int 0, .ref rq, .ref sbq]))] := hD
  refine W.widen (k := 0) (n := 0) (by omega) (by omega) ?_
  obtain rfl : r_1 = 0 := hw
  refine lv_if_ne (tgt := 20) hx hb dX6_wouldTurn_11 (by decide) (fun c_2 => absurd (by decide) c_2) (fun _ => ?_)
  refine lv_aload_n hx hb dX6_wouldTurn_14 rfl (lv_at hl 0 rfl) ?_
  refine lv_iconst (v := 1) hx hb dX6_wouldTurn_15 (by decide) ?_
  have hPc := hP.sub (ws' := [(h0, .inr (11, [.int 0, .int 0, .int 0, .int 0, .ref rq, .ref sbq]))]) [0] rfl
  have hDc := hD.sub (ws' := [(h0, .inr (11, [.int 0, .int 0, .int 0, .int 0, .ref rq, .ref sbq]))]) [0] (by decide) rfl
  have hKc := hK.sub (tys' := []) [] rfl
  have hFc := va_free (wc := [(h0, .inr (11, [.int 0, .int 0, .int 0, .int 0, .ref rq, .ref sbq]))]) hD hS hA [0] rfl
  refine va_calli (va_runV (As := [.int 1]) (rest := []) ⟨hx, hb, hml, hown, hts⟩ (c_M_fail l hl9 dC dI tE h0 rq sbq 0 0 0 0 1 _ ) (cwV 1 hts (goodIn_app (goodIn_r _ [7, 8, 9, 5] (by rfl) (by decide +kernel)) gg_c_M_wouldTurn_f_c_M_fail) rfl rfl rfl (by decide +kernel) ⟨Nat.le_of_ble_eq_true rfl, Nat.le_of_ble_eq_true rfl⟩) ⟨Pre0.blind, va_recv hKc hPc (ci := 11) (q0 := 0) rfl rfl, Pre0.give hPc hKc hDc hT hS hFc⟩ rfl rfl hl.1 rfl (lv_room (Nat.le_of_ble_eq_true rfl)) dX6_wouldTurn_16 ⟨Nat.le_of_ble_eq_true rfl, Nat.le_of_ble_eq_true rfl⟩) hS (fun q _ h => hFc q h) hFc (fun r_3 u t H1 locs ht hvm hw hB hz1 hk1 hS => ?_)
  obtain ⟨hP1, hK1, hD1⟩ := hB
  rw [ht] at hP1
  have hK1 := va_K.moved hvm.symm hK1
  obtain ⟨hP, hD⟩ := va_join (wr := []) (w1 := [(h0, .inr (11, [.int 1, .int 0, .int 0, .int 0, .ref rq, .ref sbq]))]) hP hD [0] [] rfl rfl (by decide) (by decide) hk1 hFc hP1 hD1
  generalize H1 = H at hP hS ⊢
  have hP : va_P (dC, dI) vwCl [(h0, .inr (11, [.int 1, .int 0, .int 0, .int 0, .ref rq, .ref sbq]))] H := hP
  have hD : va_D A [(h0, .inr (11, [.int 1, .int 0, .int 0, .int 0, .ref rq, .ref sbq]))] := hD
  refine W.widen (k := 0) (n := 0) (by omega) (by omega) ?_
  obtain rfl : r_3 = 0 := hw
  have hP9 := hP.sub (ws' := [(h0, .inr (11, [.int 1, .int 0, .int 0, .int 0, .ref rq, .ref sbq]))]) [0] rfl
  have hD9 := hD.sub (ws' := [(h0, .inr (11, [.int 1, .int 0, .int 0, .int 0, .ref rq, .ref sbq]))]) [0] (by decide) rfl
  have hK9 := hK.sub (tys' := []) [] rfl
  exact W.iret (v := 0) hx hb hr (fun t ht hW => ⟨⟨0, (), rfl, rfl, by rw [ht]; exact hP9, va_K.moved hW.alike hK9, hD9⟩, hS.F ht⟩) hS.2.2 dX6_wouldTurn_19
def v_c_M_write : List Cond := .code yX6_write cX6_write 3 (some .int) :: ([Cond.fieldLink RX6 20 "HotelOfBellsModel" "thrown" "I", Cond.fieldLink RX6 16 "HotelOfBellsModel" "paper" "Ljava/lang/StringBuilder;", Cond.code yJ4_setLength_d00df cJ4_setLength_d00df 2 none, Cond.code yJ5_setLength_d00df cJ5_setLength_d00df 2 none, Cond.code yJ5_ensureCapacityInternal_d00df cJ5_ensureCapacityInternal_d00df 3 none, Cond.fieldLink RJ5 15 "java/lang/AbstractStringBuilder" "value" "[B", Cond.fieldLink RJ5 22 "java/lang/AbstractStringBuilder" "coder" "B", Cond.methodLink RJ5 100 ⟨"java/lang/AbstractStringBuilder", "ensureCapacityInternal", "(I)V"⟩, Cond.sameMethod "java/lang/AbstractStringBuilder" "java/lang/AbstractStringBuilder" "ensureCapacityInternal" "(I)V", Cond.selects RJ4 ⟨"java/lang/AbstractStringBuilder", "ensureCapacityInternal", "(I)V"⟩ yJ5_ensureCapacityInternal_d00df, Cond.instanceMethod yJ5_ensureCapacityInternal_d00df, Cond.initialized RJ5, Cond.fieldLink RJ5 79 "java/lang/AbstractStringBuilder" "count" "I", Cond.methodLink RJ4 333 yJ5_setLength_d00df, Cond.sameMethod RJ5 RJ5 "setLength" "(I)V", Cond.superclass RJ4 RJ5, Cond.instanceMethod yJ5_setLength_d00df, Cond.methodLink RX6 141 yJ4_setLength_d00df, Cond.instanceMethod yJ4_setLength_d00df, Cond.selects RJ4 yJ4_setLength_d00df yJ4_setLength_d00df, Cond.initialized RJ4, Cond.fieldLink RX6 24 "HotelOfBellsModel" "floors" "I", Cond.fieldLink RX6 31 "HotelOfBellsModel" "lifts" "I", Cond.fieldLink RX6 34 "HotelOfBellsModel" "guests" "I", Cond.code yJ4_length_8abf5 cJ4_length_8abf5 1 (some .int), Cond.code yJ5_length_8abf5 cJ5_length_8abf5 1 (some .int), Cond.methodLink RJ4 343 yJ5_length_8abf5, Cond.sameMethod RJ5 RJ5 "length" "()I", Cond.instanceMethod yJ5_length_8abf5, Cond.methodLink RX6 111 yJ4_length_8abf5, Cond.instanceMethod yJ4_length_8abf5, Cond.selects RJ4 yJ4_length_8abf5 yJ4_length_8abf5] ++ (wsX60 ++ (wsJ40 ++ [])))
theorem u_c_M_write_X6 : ∀ w ∈ wsX60, w ∈ v_c_M_write := fun _ h => List.mem_cons_of_mem _ (List.mem_append_right _ (List.mem_append_left _ h))
theorem u_c_M_write_J4 : ∀ w ∈ wsJ40, w ∈ v_c_M_write := fun _ h => List.mem_cons_of_mem _ (List.mem_append_right _ (List.mem_append_right _ (List.mem_append_left _ h)))
theorem gg_c_M_write_c_SB_setLen : GoodIn v_c_M_write v_c_SB_setLen := goodIn_r _ [3, 4, 5, 6, 7, 8, 9, 10, 11, 12, 13, 14, 15, 16, 17, 39, 40, 41, 42] (by rfl) (by decide +kernel)
theorem gg_c_M_write_c_SB_len : GoodIn v_c_M_write v_c_SB_len := goodIn_r _ [25, 26, 13, 27, 28, 16, 29, 12, 39, 40, 41, 42] (by rfl) (by decide +kernel)
set_option maxHeartbeats 4000000 in
set_option maxRecDepth 100000 in
theorem c_M_write (l : Launch) (hl9 : l.stackTraces = false) (dC : Nat → ClassId) (dI : Nat → Nat → Nat) (tE : Nat) (h0 : Nat) (rq : Nat) (sbq : Nat) (th : Int32) (vq : Nat) (cv : ClassId) (fv : Nat → Int32) (sz : Nat) : Met l yX6_write v_c_M_write ({ frames := 3, cells := 0, slots := 0, locals := 64 }) (va_Pc [.ref h0] (Pre0 dC dI tE sz [(cv, .byte)] [(h0, .inr (11, [.int th, .int 0, .int 0, .int 0, .ref rq, .ref sbq])), (sbq, .inr (1, [.ref vq, .int 0, .int 0, .int 0])), (vq, .inl (cv, 16, .inl fv))])) (va_Qi (fun (r : Int32) (_ : Unit) => r = 0) (fun _ t => Pst dC dI [(cv, .byte)] (va_A [(h0, .inr (11, [.int th, .int 0, .int 0, .int 0, .ref rq, .ref sbq])), (sbq, .inr (1, [.ref vq, .int 0, .int 0, .int 0])), (vq, .inl (cv, 16, .inl fv))] sz) [(h0, .inr (11, [.int 0, .int 0, .int 0, .int 0, .ref rq, .ref sbq])), (vq, .inl (cv, 16, .inl fv)), (sbq, .inr (1, [.ref vq, .int 0, .int 0, .int 0]))] t) (va_A [(h0, .inr (11, [.int th, .int 0, .int 0, .int 0, .ref rq, .ref sbq])), (sbq, .inr (1, [.ref vq, .int 0, .int 0, .int 0])), (vq, .inl (cv, 16, .inl fv))] sz)) 0 0 (va_A [(h0, .inr (11, [.int th, .int 0, .int 0, .int 0, .ref rq, .ref sbq])), (sbq, .inr (1, [.ref vq, .int 0, .int 0, .int 0])), (vq, .inl (cv, 16, .inl fv))] sz) := by
  refine Met.ofW (cc := cX6_write) (maxL := 3) (ret := (some .int)) (by decide) rfl ?_
  intro p e s m args below meth c s₁ B hml hv
  obtain ⟨rfl, hsz, hP, hK, hD0, hT⟩ := hv
  have hx := B.exec
  have hb := B.bytes
  have hr := B.returns
  have hts := atoms_spec (ws := v_c_M_write) B.pre
  have hown : s.vm.findClass RX6 = some m.cls := findClass_of_methodNamed B.named
  have hlocks := B.notSynchronized
  subst hsz
  have hD := hD0.self (sz := s.heap.size)
  generalize hAe : va_A [(h0, .inr (11, [.int th, .int 0, .int 0, .int 0, .ref rq, .ref sbq])), (sbq, .inr (1, [.ref vq, .int 0, .int 0, .int 0])), (vq, .inl (cv, 16, .inl fv))] s.heap.size = A at hD hT ⊢
  have hA : ∀ q : Nat, s.heap.size ≤ q → A q := fun q h => by rw [← hAe]; exact Or.inr h
  have hS : va_S A s.heap s.heap [] := va_S.rf
  have hl := lv_entry ([.ref h0]) (n := 3) (Nat.le_of_ble_eq_true rfl)
  rw [lg_entry_eq]
  generalize (lg_sl ([.ref h0]) ++ List.replicate (3 - (lg_sl ([.ref h0])).length) Slot.unset).toArray = ls at hl ⊢
  have hl : lv_has ls 3 [(0, .ref h0)] := hl
  refine lv_aload_n hx hb dX6_write_0 rfl (lv_at hl 0 rfl) ?_
  refine lv_iconst (v := 0) hx hb dX6_write_1 (by decide) ?_
  refine va_put (D := (dC, dI)) (ci := 11) (v := .int 0) (ty := .int) (C := RX6) (T := TX6) (N := 6) hx hb hts u_c_M_write_X6 tyX6 tyX6_ok nmX6 hown hK hP hD hS 0 rfl rfl 0 (by decide) (hts (.fieldLink RX6 20 "HotelOfBellsModel" "thrown" "I") (List.mem_of_getElem? (i := 1) rfl)) (fun _ h9 => h9) rfl (by decide +kernel) rfl rfl (Nat.le_of_ble_eq_true rfl) dX6_write_2 (fun H locs hP hD hS => ?_)
  have hP : va_P (dC, dI) vwCl [(h0, .inr (11, [.int 0, .int 0, .int 0, .int 0, .ref rq, .ref sbq])), (sbq, .inr (1, [.ref vq, .int 0, .int 0, .int 0])), (vq, .inl (cv, 16, .inl fv))] H := hP
  have hD : va_D A [(h0, .inr (11, [.int 0, .int 0, .int 0, .int 0, .ref rq, .ref sbq])), (sbq, .inr (1, [.ref vq, .int 0, .int 0, .int 0])), (vq, .inl (cv, 16, .inl fv))] := hD
  refine lv_aload_n hx hb dX6_write_5 rfl (lv_at hl 0 rfl) ?_
  refine va_get (D := (dC, dI)) (ci := 11) (v := .ref sbq) (C := RX6) (T := TX6) (N := 6) hx hb hts u_c_M_write_X6 hown hK hP 0 rfl rfl 5 (by decide) (hts (.fieldLink RX6 16 "HotelOfBellsModel" "paper" "Ljava/lang/StringBuilder;") (List.mem_of_getElem? (i := 2) rfl)) (fun _ h9 => h9) rfl dX6_write_6 ?_
  refine lv_iconst (v := 0) hx hb dX6_write_9 (by decide) ?_
  have hPc := hP.sub (ws' := [(sbq, .inr (1, [.ref vq, .int 0, .int 0, .int 0])), (vq, .inl (cv, 16, .inl fv))]) [1, 2] rfl
  have hDc := hD.sub (ws' := [(sbq, .inr (1, [.ref vq, .int 0, .int 0, .int 0])), (vq, .inl (cv, 16, .inl fv))]) [1, 2] (by decide) rfl
  have hKc := hK.sub (tys' := [(cv, .byte)]) [0] rfl
  have hFc := va_free (wc := [(sbq, .inr (1, [.ref vq, .int 0, .int 0, .int 0])), (vq, .inl (cv, 16, .inl fv))]) hD hS hA [1, 2] rfl
  refine va_callv (va_runV (As := [.int 0]) (rest := []) ⟨hx, hb, hml, hown, hts⟩ (c_SB_setLen l hl9 dC dI tE sbq vq cv fv _ ) (cwV 1 hts (goodIn_app (goodIn_r _ [18, 19, 20, 21] (by rfl) (by decide +kernel)) gg_c_M_write_c_SB_setLen) rfl rfl rfl (by decide +kernel) ⟨Nat.le_of_ble_eq_true rfl, Nat.le_of_ble_eq_true rfl⟩) ⟨Pre0.blind, va_recv hKc hPc (ci := 1) (q0 := 0) rfl rfl, Pre0.give hPc hKc hDc hT hS hFc⟩ rfl rfl hl.1 rfl (lv_room (Nat.le_of_ble_eq_true rfl)) dX6_write_10 ⟨Nat.le_of_ble_eq_true rfl, Nat.le_of_ble_eq_true rfl⟩) hS (fun q _ h => hFc q h) hFc (fun u t H1 locs ht hvm hw hB hz1 hk1 hS => ?_)
  obtain ⟨hP1, hK1, hD1⟩ := hB
  rw [ht] at hP1
  have hK1 := va_K.moved hvm.symm hK1
  obtain ⟨hP, hD⟩ := va_join (wr := [(h0, .inr (11, [.int 0, .int 0, .int 0, .int 0, .ref rq, .ref sbq]))]) (w1 := [(sbq, .inr (1, [.ref vq, .int 0, .int 0, .int 0])), (vq, .inl (cv, 16, .inl fv))]) hP hD [1, 2] [0] rfl rfl (by decide) (by decide) hk1 hFc hP1 hD1
  generalize H1 = H at hP hS ⊢
  have hP : va_P (dC, dI) vwCl [(h0, .inr (11, [.int 0, .int 0, .int 0, .int 0, .ref rq, .ref sbq])), (sbq, .inr (1, [.ref vq, .int 0, .int 0, .int 0])), (vq, .inl (cv, 16, .inl fv))] H := hP
  have hD : va_D A [(h0, .inr (11, [.int 0, .int 0, .int 0, .int 0, .ref rq, .ref sbq])), (sbq, .inr (1, [.ref vq, .int 0, .int 0, .int 0])), (vq, .inl (cv, 16, .inl fv))] := hD
  refine W.widen (k := 0) (n := 0) (by omega) (by omega) ?_
  refine lv_iconst (v := 0) hx hb dX6_write_13 (by decide) ?_
  refine lv_istore_n (lv' := [(1, .int 0), (0, .ref h0)]) hx hb dX6_write_14 rfl hl (by decide) rfl (fun ls hl => ?_)
  refine lv_iload_n hx hb dX6_write_15 rfl (lv_at hl 0 rfl) ?_
  refine lv_aload_n hx hb dX6_write_16 rfl (lv_at hl 1 rfl) ?_
  refine va_get (D := (dC, dI)) (ci := 11) (v := .int 0) (C := RX6) (T := TX6) (N := 6) hx hb hts u_c_M_write_X6 hown hK hP 0 rfl rfl 1 (by decide) (hts (.fieldLink RX6 24 "HotelOfBellsModel" "floors" "I") (List.mem_of_getElem? (i := 22) rfl)) (fun _ h9 => h9) rfl dX6_write_17 ?_
  refine lv_icmp_ge (tgt := 120) hx hb dX6_write_20 (by decide) (fun _ => ?_) (fun c_2 => absurd (by decide) c_2)
  refine lv_iconst (v := 0) hx hb dX6_write_120 (by decide) ?_
  refine lv_istore_n (lv' := [(1, .int 0), (0, .ref h0)]) hx hb dX6_write_121 rfl hl (by decide) rfl (fun ls hl => ?_)
  refine lv_iload_n hx hb dX6_write_122 rfl (lv_at hl 0 rfl) ?_
  refine lv_aload_n hx hb dX6_write_123 rfl (lv_at hl 1 rfl) ?_
  refine va_get (D := (dC, dI)) (ci := 11) (v := .int 0) (C := RX6) (T := TX6) (N := 6) hx hb hts u_c_M_write_X6 hown hK hP 0 rfl rfl 2 (by decide) (hts (.fieldLink RX6 31 "HotelOfBellsModel" "lifts" "I") (List.mem_of_getElem? (i := 23) rfl)) (fun _ h9 => h9) rfl dX6_write_124 ?_
  refine lv_icmp_ge (tgt := 194) hx hb dX6_write_127 (by decide) (fun _ => ?_) (fun c_3 => absurd (by decide) c_3)
  refine lv_iconst (v := 0) hx hb dX6_write_194 (by decide) ?_
  refine lv_istore_n (lv' := [(1, .int 0), (0, .ref h0)]) hx hb dX6_write_195 rfl hl (by decide) rfl (fun ls hl => ?_)
  refine lv_iload_n hx hb dX6_write_196 rfl (lv_at hl 0 rfl) ?_
  refine lv_aload_n hx hb dX6_write_197 rfl (lv_at hl 1 rfl) ?_
  refine va_get (D := (dC, dI)) (ci := 11) (v := .int 0) (C := RX6) (T := TX6) (N := 6) hx hb hts u_c_M_write_X6 hown hK hP 0 rfl rfl 3 (by decide) (hts (.fieldLink RX6 34 "HotelOfBellsModel" "guests" "I") (List.mem_of_getElem? (i := 24) rfl)) (fun _ h9 => h9) rfl dX6_write_198 ?_
  refine lv_icmp_ge (tgt := 317) hx hb dX6_write_201 (by decide) (fun _ => ?_) (fun c_4 => absurd (by decide) c_4)
  refine lv_aload_n hx hb dX6_write_317 rfl (lv_at hl 1 rfl) ?_
  refine va_get (D := (dC, dI)) (ci := 11) (v := .ref sbq) (C := RX6) (T := TX6) (N := 6) hx hb hts u_c_M_write_X6 hown hK hP 0 rfl rfl 5 (by decide) (hts (.fieldLink RX6 16 "HotelOfBellsModel" "paper" "Ljava/lang/StringBuilder;") (List.mem_of_getElem? (i := 2) rfl)) (fun _ h9 => h9) rfl dX6_write_318 ?_
  have hPc := hP.sub (ws' := [(sbq, .inr (1, [.ref vq, .int 0, .int 0, .int 0]))]) [1] rfl
  have hDc := hD.sub (ws' := [(sbq, .inr (1, [.ref vq, .int 0, .int 0, .int 0]))]) [1] (by decide) rfl
  have hKc := hK.sub (tys' := []) [] rfl
  have hFc := va_free (wc := [(sbq, .inr (1, [.ref vq, .int 0, .int 0, .int 0]))]) hD hS hA [1] rfl
  refine va_calli (va_runV (As := []) (rest := []) ⟨hx, hb, hml, hown, hts⟩ (c_SB_len l hl9 dC dI tE sbq vq _ ) (cwV 0 hts (goodIn_app (goodIn_r _ [30, 31, 32, 21] (by rfl) (by decide +kernel)) gg_c_M_write_c_SB_len) rfl rfl rfl (by decide +kernel) ⟨Nat.le_of_ble_eq_true rfl, Nat.le_of_ble_eq_true rfl⟩) ⟨Pre0.blind, va_recv hKc hPc (ci := 1) (q0 := 0) rfl rfl, Pre0.give hPc hKc hDc hT hS hFc⟩ rfl rfl hl.1 rfl (lv_room (Nat.le_of_ble_eq_true rfl)) dX6_write_321 ⟨Nat.le_of_ble_eq_true rfl, Nat.le_of_ble_eq_true rfl⟩) hS (fun q _ h => hFc q h) hFc (fun r_5 u t H1 locs ht hvm hw hB hz1 hk1 hS => ?_)
  obtain ⟨hP1, hK1, hD1⟩ := hB
  rw [ht] at hP1
  have hK1 := va_K.moved hvm.symm hK1
  obtain ⟨hP, hD⟩ := va_join (wr := [(h0, .inr (11, [.int 0, .int 0, .int 0, .int 0, .ref rq, .ref sbq])), (vq, .inl (cv, 16, .inl fv))]) (w1 := [(sbq, .inr (1, [.ref vq, .int 0, .int 0, .int 0]))]) hP hD [1] [0, 2] rfl rfl (by decide) (by decide) hk1 hFc hP1 hD1
  generalize H1 = H at hP hS ⊢
  have hP : va_P (dC, dI) vwCl [(h0, .inr (11, [.int 0, .int 0, .int 0, .int 0, .ref rq, .ref sbq])), (vq, .inl (cv, 16, .inl fv)), (sbq, .inr (1, [.ref vq, .int 0, .int 0, .int 0]))] H := hP
  have hD : va_D A [(h0, .inr (11, [.int 0, .int 0, .int 0, .int 0, .ref rq, .ref sbq])), (vq, .inl (cv, 16, .inl fv)), (sbq, .inr (1, [.ref vq, .int 0, .int 0, .int 0]))] := hD
  refine W.widen (k := 0) (n := 0) (by omega) (by omega) ?_
  obtain rfl : r_5 = 0 := hw
  have hP9 := hP.sub (ws' := [(h0, .inr (11, [.int 0, .int 0, .int 0, .int 0, .ref rq, .ref sbq])), (vq, .inl (cv, 16, .inl fv)), (sbq, .inr (1, [.ref vq, .int 0, .int 0, .int 0]))]) [0, 1, 2] rfl
  have hD9 := hD.sub (ws' := [(h0, .inr (11, [.int 0, .int 0, .int 0, .int 0, .ref rq, .ref sbq])), (vq, .inl (cv, 16, .inl fv)), (sbq, .inr (1, [.ref vq, .int 0, .int 0, .int 0]))]) [0, 1, 2] (by decide) rfl
  have hK9 := hK.sub (tys' := [(cv, .byte)]) [0] rfl
  exact W.iret (v := 0) hx hb hr (fun t ht hW => ⟨⟨0, (), rfl, rfl, by rw [ht]; exact hP9, va_K.moved hW.alike hK9, hD9⟩, hS.F ht⟩) hS.2.2 dX6_write_324
def v_c_M_byteAt : List Cond := .code yX6_byteAt cX6_byteAt 2 (some .int) :: ([Cond.fieldLink RX6 20 "HotelOfBellsModel" "thrown" "I", Cond.fieldLink RX6 16 "HotelOfBellsModel" "paper" "Ljava/lang/StringBuilder;", Cond.code yJ4_length_8abf5 cJ4_length_8abf5 1 (some .int), Cond.code yJ5_length_8abf5 cJ5_length_8abf5 1 (some .int), Cond.fieldLink RJ5 79 "java/lang/AbstractStringBuilder" "count" "I", Cond.methodLink RJ4 343 yJ5_length_8abf5, Cond.sameMethod RJ5 RJ5 "length" "()I", Cond.superclass RJ4 RJ5, Cond.instanceMethod yJ5_length_8abf5, Cond.initialized RJ5, Cond.methodLink RX6 111 yJ4_length_8abf5, Cond.instanceMethod yJ4_length_8abf5, Cond.selects RJ4 yJ4_length_8abf5 yJ4_length_8abf5, Cond.initialized RJ4, Cond.code yX6_isIn cX6_isIn 3 (some .boolean), Cond.methodLink RX6 27 yX6_isIn, Cond.static yX6_isIn, Cond.initialized RX6, Cond.code yX6_fail cX6_fail 2 (some .int), Cond.methodLink RX6 45 yX6_fail, Cond.instanceMethod yX6_fail, Cond.selects RX6 yX6_fail yX6_fail] ++ (wsX60 ++ (wsJ40 ++ [])))
theorem u_c_M_byteAt_X6 : ∀ w ∈ wsX60, w ∈ v_c_M_byteAt := fun _ h => List.mem_cons_of_mem _ (List.mem_append_right _ (List.mem_append_left _ h))
theorem u_c_M_byteAt_J4 : ∀ w ∈ wsJ40, w ∈ v_c_M_byteAt := fun _ h => List.mem_cons_of_mem _ (List.mem_append_right _ (List.mem_append_right _ (List.mem_append_left _ h)))
theorem gg_c_M_byteAt_c_SB_len : GoodIn v_c_M_byteAt v_c_SB_len := goodIn_r _ [3, 4, 5, 6, 7, 8, 9, 10, 29, 30, 31, 32] (by rfl) (by decide +kernel)
theorem gg_c_M_byteAt_c_isIn_f : GoodIn v_c_M_byteAt v_c_isIn_f := goodIn_r _ [15] (by rfl) (by decide +kernel)
theorem gg_c_M_byteAt_c_M_fail : GoodIn v_c_M_byteAt v_c_M_fail := goodIn_r _ [19, 1, 23, 24, 25, 26, 27, 28] (by rfl) (by decide +kernel)
set_option maxHeartbeats 4000000 in
set_option maxRecDepth 100000 in
theorem c_M_byteAt (l : Launch) (hl9 : l.stackTraces = false) (dC : Nat → ClassId) (dI : Nat → Nat → Nat) (tE : Nat) (h0 : Nat) (rq : Nat) (sbq : Nat) (th : Int32) (vq : Nat) (p0 : Int32) (sz : Nat) : Met l yX6_byteAt v_c_M_byteAt ({ frames := 2, cells := 0, slots := 0, locals := 40 }) (va_Pc [.ref h0, .int p0] (Pre0 dC dI tE sz [] [(h0, .inr (11, [.int th, .int 0, .int 0, .int 0, .ref rq, .ref sbq])), (sbq, .inr (1, [.ref vq, .int 0, .int 0, .int 0]))])) (va_Qi (fun (r : Int32) (_ : Unit) => r = 0) (fun _ t => Pst dC dI [] (va_A [(h0, .inr (11, [.int th, .int 0, .int 0, .int 0, .ref rq, .ref sbq])), (sbq, .inr (1, [.ref vq, .int 0, .int 0, .int 0]))] sz) [(sbq, .inr (1, [.ref vq, .int 0, .int 0, .int 0])), (h0, .inr (11, [.int 1, .int 0, .int 0, .int 0, .ref rq, .ref sbq]))] t) (va_A [(h0, .inr (11, [.int th, .int 0, .int 0, .int 0, .ref rq, .ref sbq])), (sbq, .inr (1, [.ref vq, .int 0, .int 0, .int 0]))] sz)) 0 0 (va_A [(h0, .inr (11, [.int th, .int 0, .int 0, .int 0, .ref rq, .ref sbq])), (sbq, .inr (1, [.ref vq, .int 0, .int 0, .int 0]))] sz) := by
  refine Met.ofW (cc := cX6_byteAt) (maxL := 2) (ret := (some .int)) (by decide) rfl ?_
  intro p e s m args below meth c s₁ B hml hv
  obtain ⟨rfl, hsz, hP, hK, hD0, hT⟩ := hv
  have hx := B.exec
  have hb := B.bytes
  have hr := B.returns
  have hts := atoms_spec (ws := v_c_M_byteAt) B.pre
  have hown : s.vm.findClass RX6 = some m.cls := findClass_of_methodNamed B.named
  have hlocks := B.notSynchronized
  subst hsz
  have hD := hD0.self (sz := s.heap.size)
  generalize hAe : va_A [(h0, .inr (11, [.int th, .int 0, .int 0, .int 0, .ref rq, .ref sbq])), (sbq, .inr (1, [.ref vq, .int 0, .int 0, .int 0]))] s.heap.size = A at hD hT ⊢
  have hA : ∀ q : Nat, s.heap.size ≤ q → A q := fun q h => by rw [← hAe]; exact Or.inr h
  have hS : va_S A s.heap s.heap [] := va_S.rf
  have hl := lv_entry ([.ref h0, .int p0]) (n := 2) (Nat.le_of_ble_eq_true rfl)
  rw [lg_entry_eq]
  generalize (lg_sl ([.ref h0, .int p0]) ++ List.replicate (2 - (lg_sl ([.ref h0, .int p0])).length) Slot.unset).toArray = ls at hl ⊢
  have hl : lv_has ls 2 [(0, .ref h0), (1, .int p0)] := hl
  refine lv_aload_n hx hb dX6_byteAt_0 rfl (lv_at hl 0 rfl) ?_
  refine lv_iconst (v := 0) hx hb dX6_byteAt_1 (by decide) ?_
  refine va_put (D := (dC, dI)) (ci := 11) (v := .int 0) (ty := .int) (C := RX6) (T := TX6) (N := 6) hx hb hts u_c_M_byteAt_X6 tyX6 tyX6_ok nmX6 hown hK hP hD hS 0 rfl rfl 0 (by decide) (hts (.fieldLink RX6 20 "HotelOfBellsModel" "thrown" "I") (List.mem_of_getElem? (i := 1) rfl)) (fun _ h9 => h9) rfl (by decide +kernel) rfl rfl (Nat.le_of_ble_eq_true rfl) dX6_byteAt_2 (fun H locs hP hD hS => ?_)
  have hP : va_P (dC, dI) vwCl [(h0, .inr (11, [.int 0, .int 0, .int 0, .int 0, .ref rq, .ref sbq])), (sbq, .inr (1, [.ref vq, .int 0, .int 0, .int 0]))] H := hP
  have hD : va_D A [(h0, .inr (11, [.int 0, .int 0, .int 0, .int 0, .ref rq, .ref sbq])), (sbq, .inr (1, [.ref vq, .int 0, .int 0, .int 0]))] := hD
  refine lv_iload_n hx hb dX6_byteAt_5 rfl (lv_at hl 1 rfl) ?_
  refine lv_iconst (v := 0) hx hb dX6_byteAt_6 (by decide) ?_
  refine lv_aload_n hx hb dX6_byteAt_7 rfl (lv_at hl 0 rfl) ?_
  refine va_get (D := (dC, dI)) (ci := 11) (v := .ref sbq) (C := RX6) (T := TX6) (N := 6) hx hb hts u_c_M_byteAt_X6 hown hK hP 0 rfl rfl 5 (by decide) (hts (.fieldLink RX6 16 "HotelOfBellsModel" "paper" "Ljava/lang/StringBuilder;") (List.mem_of_getElem? (i := 2) rfl)) (fun _ h9 => h9) rfl dX6_byteAt_8 ?_
  have hPc := hP.sub (ws' := [(sbq, .inr (1, [.ref vq, .int 0, .int 0, .int 0]))]) [1] rfl
  have hDc := hD.sub (ws' := [(sbq, .inr (1, [.ref vq, .int 0, .int 0, .int 0]))]) [1] (by decide) rfl
  have hKc := hK.sub (tys' := []) [] rfl
  have hFc := va_free (wc := [(sbq, .inr (1, [.ref vq, .int 0, .int 0, .int 0]))]) hD hS hA [1] rfl
  refine va_calli (va_runV (As := []) (rest := [.int 0, .int p0]) ⟨hx, hb, hml, hown, hts⟩ (c_SB_len l hl9 dC dI tE sbq vq _ ) (cwV 0 hts (goodIn_app (goodIn_r _ [11, 12, 13, 14] (by rfl) (by decide +kernel)) gg_c_M_byteAt_c_SB_len) rfl rfl rfl (by decide +kernel) ⟨Nat.le_of_ble_eq_true rfl, Nat.le_of_ble_eq_true rfl⟩) ⟨Pre0.blind, va_recv hKc hPc (ci := 1) (q0 := 0) rfl rfl, Pre0.give hPc hKc hDc hT hS hFc⟩ rfl rfl hl.1 rfl (lv_room (Nat.le_of_ble_eq_true rfl)) dX6_byteAt_11 ⟨Nat.le_of_ble_eq_true rfl, Nat.le_of_ble_eq_true rfl⟩) hS (fun q _ h => hFc q h) hFc (fun r_1 u t H1 locs ht hvm hw hB hz1 hk1 hS => ?_)
  obtain ⟨hP1, hK1, hD1⟩ := hB
  rw [ht] at hP1
  have hK1 := va_K.moved hvm.symm hK1
  obtain ⟨hP, hD⟩ := va_join (wr := [(h0, .inr (11, [.int 0, .int 0, .int 0, .int 0, .ref rq, .ref sbq]))]) (w1 := [(sbq, .inr (1, [.ref vq, .int 0, .int 0, .int 0]))]) hP hD [1] [0] rfl rfl (by decide) (by decide) hk1 hFc hP1 hD1
  generalize H1 = H at hP hS ⊢
  have hP : va_P (dC, dI) vwCl [(h0, .inr (11, [.int 0, .int 0, .int 0, .int 0, .ref rq, .ref sbq])), (sbq, .inr (1, [.ref vq, .int 0, .int 0, .int 0]))] H := hP
  have hD : va_D A [(h0, .inr (11, [.int 0, .int 0, .int 0, .int 0, .ref rq, .ref sbq])), (sbq, .inr (1, [.ref vq, .int 0, .int 0, .int 0]))] := hD
  refine W.widen (k := 0) (n := 0) (by omega) (by omega) ?_
  obtain rfl : r_1 = 0 := hw
  refine lv_iconst (v := 1) hx hb dX6_byteAt_14 (by decide) ?_
  refine lv_isub hx hb dX6_byteAt_15 ?_
  refine lv_topi (fun x_2 e_3 => ?_)
  obtain rfl : x_2 = (-1) := e_3.trans (by decide)
  have hPc := hP.sub (ws' := []) [] rfl
  have hDc := hD.sub (ws' := []) [] (by decide) rfl
  have hKc := hK.sub (tys' := []) [] rfl
  have hFc := va_free (wc := []) hD hS hA [] rfl
  refine va_calli (va_runS (As := [.int p0, .int 0, .int (-1)]) (rest := []) ⟨hx, hb, hml, hown, hts⟩ (c_isIn_f l hl9 dC dI tE p0 0 (-1) _ (none_in p0)) (va_cwS 3 hts (goodIn_app (goodIn_r _ [16, 17, 18] (by rfl) (by decide +kernel)) gg_c_M_byteAt_c_isIn_f) rfl rfl rfl (by decide +kernel) ⟨Nat.le_of_ble_eq_true rfl, Nat.le_of_ble_eq_true rfl⟩) ⟨Pre0.blind, Pre0.give hPc hKc hDc hT hS hFc⟩ rfl rfl hl.1 rfl (lv_room (Nat.le_of_ble_eq_true rfl)) dX6_byteAt_16 ⟨Nat.le_of_ble_eq_true rfl, Nat.le_of_ble_eq_true rfl⟩) hS (fun q _ h => hFc q h) hFc (fun r_4 u t H1 locs ht hvm hw hB hz1 hk1 hS => ?_)
  obtain ⟨hP1, hK1, hD1⟩ := hB
  rw [ht] at hP1
  have hK1 := va_K.moved hvm.symm hK1
  obtain ⟨hP, hD⟩ := va_join (wr := [(h0, .inr (11, [.int 0, .int 0, .int 0, .int 0, .ref rq, .ref sbq])), (sbq, .inr (1, [.ref vq, .int 0, .int 0, .int 0]))]) (w1 := []) hP hD [] [0, 1] rfl rfl (by decide) (by decide) hk1 hFc hP1 hD1
  generalize H1 = H at hP hS ⊢
  have hP : va_P (dC, dI) vwCl [(h0, .inr (11, [.int 0, .int 0, .int 0, .int 0, .ref rq, .ref sbq])), (sbq, .inr (1, [.ref vq, .int 0, .int 0, .int 0]))] H := hP
  have hD : va_D A [(h0, .inr (11, [.int 0, .int 0, .int 0, .int 0, .ref rq, .ref sbq])), (sbq, .inr (1, [.ref vq, .int 0, .int 0, .int 0]))] := hD
  refine W.widen (k := 0) (n := 0) (by omega) (by omega) ?_
  obtain rfl : r_4 = 0 := hw
  refine lv_if_eq (tgt := 33) hx hb dX6_byteAt_19 (by decide) (fun _ => ?_) (fun c_5 => absurd (by decide) c_5)
  refine lv_aload_n hx hb dX6_byteAt_33 rfl (lv_at hl 0 rfl) ?_
  refine lv_iconst (v := 1) hx hb dX6_byteAt_34 (by decide) ?_
  have hPc := hP.sub (ws' := [(h0, .inr (11, [.int 0, .int 0, .int 0, .int 0, .ref rq, .ref sbq]))]) [0] rfl
  have hDc := hD.sub (ws' := [(h0, .inr (11, [.int 0, .int 0, .int 0, .int 0, .ref rq, .ref sbq]))]) [0] (by decide) rfl
  have hKc := hK.sub (tys' := []) [] rfl
  have hFc := va_free (wc := [(h0, .inr (11, [.int 0, .int 0, .int 0, .int 0, .ref rq, .ref sbq]))]) hD hS hA [0] rfl
  refine va_calli (va_runV (As := [.int 1]) (rest := []) ⟨hx, hb, hml, hown, hts⟩ (c_M_fail l hl9 dC dI tE h0 rq sbq 0 0 0 0 1 _ ) (cwV 1 hts (goodIn_app (goodIn_r _ [20, 21, 22, 18] (by rfl) (by decide +kernel)) gg_c_M_byteAt_c_M_fail) rfl rfl rfl (by decide +kernel) ⟨Nat.le_of_ble_eq_true rfl, Nat.le_of_ble_eq_true rfl⟩) ⟨Pre0.blind, va_recv hKc hPc (ci := 11) (q0 := 0) rfl rfl, Pre0.give hPc hKc hDc hT hS hFc⟩ rfl rfl hl.1 rfl (lv_room (Nat.le_of_ble_eq_true rfl)) dX6_byteAt_35 ⟨Nat.le_of_ble_eq_true rfl, Nat.le_of_ble_eq_true rfl⟩) hS (fun q _ h => hFc q h) hFc (fun r_6 u t H1 locs ht hvm hw hB hz1 hk1 hS => ?_)
  obtain ⟨hP1, hK1, hD1⟩ := hB
  rw [ht] at hP1
  have hK1 := va_K.moved hvm.symm hK1
  obtain ⟨hP, hD⟩ := va_join (wr := [(sbq, .inr (1, [.ref vq, .int 0, .int 0, .int 0]))]) (w1 := [(h0, .inr (11, [.int 1, .int 0, .int 0, .int 0, .ref rq, .ref sbq]))]) hP hD [0] [1] rfl rfl (by decide) (by decide) hk1 hFc hP1 hD1
  generalize H1 = H at hP hS ⊢
  have hP : va_P (dC, dI) vwCl [(sbq, .inr (1, [.ref vq, .int 0, .int 0, .int 0])), (h0, .inr (11, [.int 1, .int 0, .int 0, .int 0, .ref rq, .ref sbq]))] H := hP
  have hD : va_D A [(sbq, .inr (1, [.ref vq, .int 0, .int 0, .int 0])), (h0, .inr (11, [.int 1, .int 0, .int 0, .int 0, .ref rq, .ref sbq]))] := hD
  refine W.widen (k := 0) (n := 0) (by omega) (by omega) ?_
  obtain rfl : r_6 = 0 := hw
  have hP9 := hP.sub (ws' := [(sbq, .inr (1, [.ref vq, .int 0, .int 0, .int 0])), (h0, .inr (11, [.int 1, .int 0, .int 0, .int 0, .ref rq, .ref sbq]))]) [0, 1] rfl
  have hD9 := hD.sub (ws' := [(sbq, .inr (1, [.ref vq, .int 0, .int 0, .int 0])), (h0, .inr (11, [.int 1, .int 0, .int 0, .int 0, .ref rq, .ref sbq]))]) [0, 1] (by decide) rfl
  have hK9 := hK.sub (tys' := []) [] rfl
  exact W.iret (v := 0) hx hb hr (fun t ht hW => ⟨⟨0, (), rfl, rfl, by rw [ht]; exact hP9, va_K.moved hW.alike hK9, hD9⟩, hS.F ht⟩) hS.2.2 dX6_byteAt_38
def v_c_M_home : List Cond := .code yX6_home cX6_home 1 (some .double) :: ([Cond.fieldLink RX6 20 "HotelOfBellsModel" "thrown" "I", Cond.fieldLink RX6 34 "HotelOfBellsModel" "guests" "I"] ++ (wsX60 ++ []))
theorem u_c_M_home_X6 : ∀ w ∈ wsX60, w ∈ v_c_M_home := fun _ h => List.mem_cons_of_mem _ (List.mem_append_right _ (List.mem_append_left _ h))
set_option maxHeartbeats 4000000 in
set_option maxRecDepth 100000 in
theorem c_M_home (l : Launch) (hl9 : l.stackTraces = false) (dC : Nat → ClassId) (dI : Nat → Nat → Nat) (tE : Nat) (h0 : Nat) (rq : Nat) (sbq : Nat) (th : Int32) (sz : Nat) : Met l yX6_home v_c_M_home ({ frames := 0, cells := 0, slots := 0, locals := 0 }) (va_Pc [.ref h0] (Pre0 dC dI tE sz [] [(h0, .inr (11, [.int th, .int 0, .int 0, .int 0, .ref rq, .ref sbq]))])) (va_Qd (fun (r : UInt64) (_ : Unit) => r = FP.dconst1) (fun _ t => Pst dC dI [] (va_A [(h0, .inr (11, [.int th, .int 0, .int 0, .int 0, .ref rq, .ref sbq]))] sz) [(h0, .inr (11, [.int 0, .int 0, .int 0, .int 0, .ref rq, .ref sbq]))] t) (va_A [(h0, .inr (11, [.int th, .int 0, .int 0, .int 0, .ref rq, .ref sbq]))] sz)) 0 0 (va_A [(h0, .inr (11, [.int th, .int 0, .int 0, .int 0, .ref rq, .ref sbq]))] sz) := by
  refine Met.ofW (cc := cX6_home) (maxL := 1) (ret := (some .double)) (by decide) rfl ?_
  intro p e s m args below meth c s₁ B hml hv
  obtain ⟨rfl, hsz, hP, hK, hD0, hT⟩ := hv
  have hx := B.exec
  have hb := B.bytes
  have hr := B.returns
  have hts := atoms_spec (ws := v_c_M_home) B.pre
  have hown : s.vm.findClass RX6 = some m.cls := findClass_of_methodNamed B.named
  have hlocks := B.notSynchronized
  subst hsz
  have hD := hD0.self (sz := s.heap.size)
  generalize hAe : va_A [(h0, .inr (11, [.int th, .int 0, .int 0, .int 0, .ref rq, .ref sbq]))] s.heap.size = A at hD hT ⊢
  have hA : ∀ q : Nat, s.heap.size ≤ q → A q := fun q h => by rw [← hAe]; exact Or.inr h
  have hS : va_S A s.heap s.heap [] := va_S.rf
  have hl := lv_entry ([.ref h0]) (n := 1) (Nat.le_of_ble_eq_true rfl)
  rw [lg_entry_eq]
  generalize (lg_sl ([.ref h0]) ++ List.replicate (1 - (lg_sl ([.ref h0])).length) Slot.unset).toArray = ls at hl ⊢
  have hl : lv_has ls 1 [(0, .ref h0)] := hl
  refine lv_aload_n hx hb dX6_home_0 rfl (lv_at hl 0 rfl) ?_
  refine lv_iconst (v := 0) hx hb dX6_home_1 (by decide) ?_
  refine va_put (D := (dC, dI)) (ci := 11) (v := .int 0) (ty := .int) (C := RX6) (T := TX6) (N := 6) hx hb hts u_c_M_home_X6 tyX6 tyX6_ok nmX6 hown hK hP hD hS 0 rfl rfl 0 (by decide) (hts (.fieldLink RX6 20 "HotelOfBellsModel" "thrown" "I") (List.mem_of_getElem? (i := 1) rfl)) (fun _ h9 => h9) rfl (by decide +kernel) rfl rfl (Nat.le_of_ble_eq_true rfl) dX6_home_2 (fun H locs hP hD hS => ?_)
  have hP : va_P (dC, dI) vwCl [(h0, .inr (11, [.int 0, .int 0, .int 0, .int 0, .ref rq, .ref sbq]))] H := hP
  have hD : va_D A [(h0, .inr (11, [.int 0, .int 0, .int 0, .int 0, .ref rq, .ref sbq]))] := hD
  refine lv_aload_n hx hb dX6_home_5 rfl (lv_at hl 0 rfl) ?_
  refine va_get (D := (dC, dI)) (ci := 11) (v := .int 0) (C := RX6) (T := TX6) (N := 6) hx hb hts u_c_M_home_X6 hown hK hP 0 rfl rfl 3 (by decide) (hts (.fieldLink RX6 34 "HotelOfBellsModel" "guests" "I") (List.mem_of_getElem? (i := 2) rfl)) (fun _ h9 => h9) rfl dX6_home_6 ?_
  refine lv_if_ne (tgt := 16) hx hb dX6_home_9 (by decide) (fun c_1 => absurd (by decide) c_1) (fun _ => ?_)
  refine lv_dconst1 hx hb dX6_home_12 ?_
  refine lv_goto (tgt := 28) hx hb dX6_home_13 (by decide) ?_
  have hP9 := hP.sub (ws' := [(h0, .inr (11, [.int 0, .int 0, .int 0, .int 0, .ref rq, .ref sbq]))]) [0] rfl
  have hD9 := hD.sub (ws' := [(h0, .inr (11, [.int 0, .int 0, .int 0, .int 0, .ref rq, .ref sbq]))]) [0] (by decide) rfl
  have hK9 := hK.sub (tys' := []) [] rfl
  exact W.dret (v := FP.dconst1) hx hb hr (fun t ht hW => ⟨⟨FP.dconst1, (), rfl, rfl, by rw [ht]; exact hP9, va_K.moved hW.alike hK9, hD9⟩, hS.F ht⟩) hS.2.2 dX6_home_28
def v_c_M_digest : List Cond := .code yX6_digest cX6_digest 5 (some .long) :: ([Cond.fieldLink RX6 20 "HotelOfBellsModel" "thrown" "I", Cond.constantLong RX6 164 (541), Cond.constantLong RX6 166 (31), Cond.code yX6_counted cX6_counted 5 (some .int), Cond.fieldLink RX6 34 "HotelOfBellsModel" "guests" "I", Cond.fieldLink RX6 24 "HotelOfBellsModel" "floors" "I", Cond.methodLink RX6 115 yX6_counted, Cond.instanceMethod yX6_counted, Cond.selects RX6 yX6_counted yX6_counted, Cond.initialized RX6, Cond.fieldLink RX6 31 "HotelOfBellsModel" "lifts" "I", Cond.fieldLink RX6 9 "HotelOfBellsModel" "row" "[I", Cond.fieldLink RX6 16 "HotelOfBellsModel" "paper" "Ljava/lang/StringBuilder;", Cond.code yJ4_length_8abf5 cJ4_length_8abf5 1 (some .int), Cond.code yJ5_length_8abf5 cJ5_length_8abf5 1 (some .int), Cond.fieldLink RJ5 79 "java/lang/AbstractStringBuilder" "count" "I", Cond.methodLink RJ4 343 yJ5_length_8abf5, Cond.sameMethod RJ5 RJ5 "length" "()I", Cond.superclass RJ4 RJ5, Cond.instanceMethod yJ5_length_8abf5, Cond.initialized RJ5, Cond.methodLink RX6 111 yJ4_length_8abf5, Cond.instanceMethod yJ4_length_8abf5, Cond.selects RJ4 yJ4_length_8abf5 yJ4_length_8abf5, Cond.initialized RJ4] ++ (wsX60 ++ (wsJ40 ++ [])))
theorem u_c_M_digest_X6 : ∀ w ∈ wsX60, w ∈ v_c_M_digest := fun _ h => List.mem_cons_of_mem _ (List.mem_append_right _ (List.mem_append_left _ h))
theorem u_c_M_digest_J4 : ∀ w ∈ wsJ40, w ∈ v_c_M_digest := fun _ h => List.mem_cons_of_mem _ (List.mem_append_right _ (List.mem_append_right _ (List.mem_append_left _ h)))
theorem gg_c_M_digest_c_counted_0 : GoodIn v_c_M_digest v_c_counted_0 := goodIn_r _ [4, 5, 6, 26, 27, 28, 29, 30, 31] (by rfl) (by decide +kernel)
theorem gg_c_M_digest_c_counted_1 : GoodIn v_c_M_digest v_c_counted_1 := goodIn_r _ [4, 5, 11, 26, 27, 28, 29, 30, 31] (by rfl) (by decide +kernel)
theorem gg_c_M_digest_c_counted_2 : GoodIn v_c_M_digest v_c_counted_2 := goodIn_r _ [4, 5, 26, 27, 28, 29, 30, 31] (by rfl) (by decide +kernel)
theorem gg_c_M_digest_c_counted_3 : GoodIn v_c_M_digest v_c_counted_3 := goodIn_r _ [4, 5, 26, 27, 28, 29, 30, 31] (by rfl) (by decide +kernel)
theorem gg_c_M_digest_c_counted_4 : GoodIn v_c_M_digest v_c_counted_4 := goodIn_r _ [4, 5, 26, 27, 28, 29, 30, 31] (by rfl) (by decide +kernel)
theorem gg_c_M_digest_c_counted_5 : GoodIn v_c_M_digest v_c_counted_5 := goodIn_r _ [4, 5, 12, 26, 27, 28, 29, 30, 31] (by rfl) (by decide +kernel)
theorem gg_c_M_digest_c_counted_6 : GoodIn v_c_M_digest v_c_counted_6 := goodIn_r _ [4, 5, 12, 26, 27, 28, 29, 30, 31] (by rfl) (by decide +kernel)
theorem gg_c_M_digest_c_counted_7 : GoodIn v_c_M_digest v_c_counted_7 := goodIn_r _ [4, 5, 13, 14, 15, 16, 17, 18, 19, 20, 21, 22, 23, 24, 25, 26, 27, 28, 29, 30, 31, 32, 33, 34, 35] (by rfl) (by decide +kernel)
theorem gg_c_M_digest_c_SB_len : GoodIn v_c_M_digest v_c_SB_len := goodIn_r _ [14, 15, 16, 17, 18, 19, 20, 21, 32, 33, 34, 35] (by rfl) (by decide +kernel)
set_option maxHeartbeats 4000000 in
set_option maxRecDepth 100000 in
theorem c_M_digest (l : Launch) (hl9 : l.stackTraces = false) (dC : Nat → ClassId) (dI : Nat → Nat → Nat) (tE : Nat) (h0 : Nat) (rq : Nat) (sbq : Nat) (th : Int32) (ci : ClassId) (vq : Nat) (sz : Nat) : Met l yX6_digest v_c_M_digest ({ frames := 3, cells := 0, slots := 0, locals := 64 }) (va_Pc [.ref h0] (Pre0 dC dI tE sz [(ci, .int)] [(h0, .inr (11, [.int th, .int 0, .int 0, .int 0, .ref rq, .ref sbq])), (rq, .inl (ci, 119, .inl (fun _ => 0))), (sbq, .inr (1, [.ref vq, .int 0, .int 0, .int 0]))])) (va_Ql (fun (r : Int64) (_ : Unit) => r = (((((((541 * 31 + 0) * 31 + 0) * 31 + 0) * 31 + 0) * 31 + 0) * 31 + 0) * 31 + 0) * 31 + 0) (fun _ t => Pst dC dI [(ci, .int)] (va_A [(h0, .inr (11, [.int th, .int 0, .int 0, .int 0, .ref rq, .ref sbq])), (rq, .inl (ci, 119, .inl (fun _ => 0))), (sbq, .inr (1, [.ref vq, .int 0, .int 0, .int 0]))] sz) [(rq, .inl (ci, 119, .inl (fun _ => 0))), (h0, .inr (11, [.int 0, .int 0, .int 0, .int 0, .ref rq, .ref sbq])), (sbq, .inr (1, [.ref vq, .int 0, .int 0, .int 0]))] t) (va_A [(h0, .inr (11, [.int th, .int 0, .int 0, .int 0, .ref rq, .ref sbq])), (rq, .inl (ci, 119, .inl (fun _ => 0))), (sbq, .inr (1, [.ref vq, .int 0, .int 0, .int 0]))] sz)) 0 0 (va_A [(h0, .inr (11, [.int th, .int 0, .int 0, .int 0, .ref rq, .ref sbq])), (rq, .inl (ci, 119, .inl (fun _ => 0))), (sbq, .inr (1, [.ref vq, .int 0, .int 0, .int 0]))] sz) := by
  refine Met.ofW (cc := cX6_digest) (maxL := 5) (ret := (some .long)) (by decide) rfl ?_
  intro p e s m args below meth c s₁ B hml hv
  obtain ⟨rfl, hsz, hP, hK, hD0, hT⟩ := hv
  have hx := B.exec
  have hb := B.bytes
  have hr := B.returns
  have hts := atoms_spec (ws := v_c_M_digest) B.pre
  have hown : s.vm.findClass RX6 = some m.cls := findClass_of_methodNamed B.named
  have hlocks := B.notSynchronized
  subst hsz
  have hD := hD0.self (sz := s.heap.size)
  generalize hAe : va_A [(h0, .inr (11, [.int th, .int 0, .int 0, .int 0, .ref rq, .ref sbq])), (rq, .inl (ci, 119, .inl (fun _ => 0))), (sbq, .inr (1, [.ref vq, .int 0, .int 0, .int 0]))] s.heap.size = A at hD hT ⊢
  have hA : ∀ q : Nat, s.heap.size ≤ q → A q := fun q h => by rw [← hAe]; exact Or.inr h
  have hS : va_S A s.heap s.heap [] := va_S.rf
  have hl := lv_entry ([.ref h0]) (n := 5) (Nat.le_of_ble_eq_true rfl)
  rw [lg_entry_eq]
  generalize (lg_sl ([.ref h0]) ++ List.replicate (5 - (lg_sl ([.ref h0])).length) Slot.unset).toArray = ls at hl ⊢
  have hl : lv_has ls 5 [(0, .ref h0)] := hl
  refine lv_aload_n hx hb dX6_digest_0 rfl (lv_at hl 0 rfl) ?_
  refine lv_iconst (v := 0) hx hb dX6_digest_1 (by decide) ?_
  refine va_put (D := (dC, dI)) (ci := 11) (v := .int 0) (ty := .int) (C := RX6) (T := TX6) (N := 6) hx hb hts u_c_M_digest_X6 tyX6 tyX6_ok nmX6 hown hK hP hD hS 0 rfl rfl 0 (by decide) (hts (.fieldLink RX6 20 "HotelOfBellsModel" "thrown" "I") (List.mem_of_getElem? (i := 1) rfl)) (fun _ h9 => h9) rfl (by decide +kernel) rfl rfl (Nat.le_of_ble_eq_true rfl) dX6_digest_2 (fun H locs hP hD hS => ?_)
  have hP : va_P (dC, dI) vwCl [(h0, .inr (11, [.int 0, .int 0, .int 0, .int 0, .ref rq, .ref sbq])), (rq, .inl (ci, 119, .inl (fun _ => 0))), (sbq, .inr (1, [.ref vq, .int 0, .int 0, .int 0]))] H := hP
  have hD : va_D A [(h0, .inr (11, [.int 0, .int 0, .int 0, .int 0, .ref rq, .ref sbq])), (rq, .inl (ci, 119, .inl (fun _ => 0))), (sbq, .inr (1, [.ref vq, .int 0, .int 0, .int 0]))] := hD
  refine lv_ldc2 (v := 541) hx hb hown (hts (.constantLong RX6 164 (541)) (List.mem_of_getElem? (i := 2) rfl)) dX6_digest_5 ?_
  refine lv_lstore_n (lv' := [(1, .long 541), (0, .ref h0)]) hx hb dX6_digest_8 rfl hl (by decide) rfl (fun ls hl => ?_)
  refine lv_iconst (v := 0) hx hb dX6_digest_9 (by decide) ?_
  refine lv_istore_n (lv' := [(3, .int 0), (1, .long 541), (0, .ref h0)]) hx hb dX6_digest_10 rfl hl (by decide) rfl (fun ls hl => ?_)
  refine lv_iload_n hx hb dX6_digest_11 rfl (lv_at hl 0 rfl) ?_
  refine lv_bipush (v := 8) hx hb dX6_digest_12 (by decide) ?_
  refine lv_icmp_ge (tgt := 36) hx hb dX6_digest_14 (by decide) (fun c_1 => absurd c_1 (by decide)) (fun _ => ?_)
  refine lv_lload_n hx hb dX6_digest_17 rfl (lv_at hl 1 rfl) ?_
  refine lv_ldc2 (v := 31) hx hb hown (hts (.constantLong RX6 166 (31)) (List.mem_of_getElem? (i := 3) rfl)) dX6_digest_18 ?_
  refine lv_lmul hx hb dX6_digest_21 ?_
  refine lv_aload_n hx hb dX6_digest_22 rfl (lv_at hl 2 rfl) ?_
  refine lv_iload_n hx hb dX6_digest_23 rfl (lv_at hl 0 rfl) ?_
  have hPc := hP.sub (ws' := [(h0, .inr (11, [.int 0, .int 0, .int 0, .int 0, .ref rq, .ref sbq]))]) [0] rfl
  have hDc := hD.sub (ws' := [(h0, .inr (11, [.int 0, .int 0, .int 0, .int 0, .ref rq, .ref sbq]))]) [0] (by decide) rfl
  have hKc := hK.sub (tys' := []) [] rfl
  have hFc := va_free (wc := [(h0, .inr (11, [.int 0, .int 0, .int 0, .int 0, .ref rq, .ref sbq]))]) hD hS hA [0] rfl
  refine va_calli (va_runV (As := [.int 0]) (rest := [.long (541 * 31)]) ⟨hx, hb, hml, hown, hts⟩ (c_counted_0 l hl9 dC dI tE h0 rq sbq 0 _ ) (cwV 1 hts (goodIn_app (goodIn_r _ [7, 8, 9, 10] (by rfl) (by decide +kernel)) gg_c_M_digest_c_counted_0) rfl rfl rfl (by decide +kernel) ⟨Nat.le_of_ble_eq_true rfl, Nat.le_of_ble_eq_true rfl⟩) ⟨Pre0.blind, va_recv hKc hPc (ci := 11) (q0 := 0) rfl rfl, Pre0.give hPc hKc hDc hT hS hFc⟩ rfl rfl hl.1 rfl (lv_room (Nat.le_of_ble_eq_true rfl)) dX6_digest_24 ⟨Nat.le_of_ble_eq_true rfl, Nat.le_of_ble_eq_true rfl⟩) hS (fun q _ h => hFc q h) hFc (fun r_2 u t H1 locs ht hvm hw hB hz1 hk1 hS => ?_)
  obtain ⟨hP1, hK1, hD1⟩ := hB
  rw [ht] at hP1
  have hK1 := va_K.moved hvm.symm hK1
  obtain ⟨hP, hD⟩ := va_join (wr := [(rq, .inl (ci, 119, .inl (fun _ => 0))), (sbq, .inr (1, [.ref vq, .int 0, .int 0, .int 0]))]) (w1 := [(h0, .inr (11, [.int 0, .int 0, .int 0, .int 0, .ref rq, .ref sbq]))]) hP hD [0] [1, 2] rfl rfl (by decide) (by decide) hk1 hFc hP1 hD1
  generalize H1 = H at hP hS ⊢
  have hP : va_P (dC, dI) vwCl [(rq, .inl (ci, 119, .inl (fun _ => 0))), (sbq, .inr (1, [.ref vq, .int 0, .int 0, .int 0])), (h0, .inr (11, [.int 0, .int 0, .int 0, .int 0, .ref rq, .ref sbq]))] H := hP
  have hD : va_D A [(rq, .inl (ci, 119, .inl (fun _ => 0))), (sbq, .inr (1, [.ref vq, .int 0, .int 0, .int 0])), (h0, .inr (11, [.int 0, .int 0, .int 0, .int 0, .ref rq, .ref sbq]))] := hD
  refine W.widen (k := 0) (n := 0) (by omega) (by omega) ?_
  obtain rfl : r_2 = 0 := hw
  refine lv_i2l (v := 0) hx hb dX6_digest_27 (by decide) ?_
  refine lv_ladd hx hb dX6_digest_28 ?_
  refine lv_lstore_n (lv' := [(1, .long ((541 * 31) + 0)), (3, .int 0), (0, .ref h0)]) hx hb dX6_digest_29 rfl hl (by decide) rfl (fun ls hl => ?_)
  refine lv_iinc (v := 1) (lv' := [(3, .int 1), (1, .long ((541 * 31) + 0)), (0, .ref h0)]) hx hb dX6_digest_30 hl (k := 1) rfl (by decide) (by decide) rfl (fun ls hl => ?_)
  refine lv_goto (tgt := 11) hx hb dX6_digest_33 (by decide) ?_
  refine lv_iload_n hx hb dX6_digest_11 rfl (lv_at hl 0 rfl) ?_
  refine lv_bipush (v := 8) hx hb dX6_digest_12 (by decide) ?_
  refine lv_icmp_ge (tgt := 36) hx hb dX6_digest_14 (by decide) (fun c_3 => absurd c_3 (by decide)) (fun _ => ?_)
  refine lv_lload_n hx hb dX6_digest_17 rfl (lv_at hl 1 rfl) ?_
  refine lv_ldc2 (v := 31) hx hb hown (hts (.constantLong RX6 166 (31)) (List.mem_of_getElem? (i := 3) rfl)) dX6_digest_18 ?_
  refine lv_lmul hx hb dX6_digest_21 ?_
  refine lv_aload_n hx hb dX6_digest_22 rfl (lv_at hl 2 rfl) ?_
  refine lv_iload_n hx hb dX6_digest_23 rfl (lv_at hl 0 rfl) ?_
  have hPc := hP.sub (ws' := [(h0, .inr (11, [.int 0, .int 0, .int 0, .int 0, .ref rq, .ref sbq]))]) [2] rfl
  have hDc := hD.sub (ws' := [(h0, .inr (11, [.int 0, .int 0, .int 0, .int 0, .ref rq, .ref sbq]))]) [2] (by decide) rfl
  have hKc := hK.sub (tys' := []) [] rfl
  have hFc := va_free (wc := [(h0, .inr (11, [.int 0, .int 0, .int 0, .int 0, .ref rq, .ref sbq]))]) hD hS hA [2] rfl
  refine va_calli (va_runV (As := [.int 1]) (rest := [.long (((541 * 31) + 0) * 31)]) ⟨hx, hb, hml, hown, hts⟩ (c_counted_1 l hl9 dC dI tE h0 rq sbq 0 _ ) (cwV 1 hts (goodIn_app (goodIn_r _ [7, 8, 9, 10] (by rfl) (by decide +kernel)) gg_c_M_digest_c_counted_1) rfl rfl rfl (by decide +kernel) ⟨Nat.le_of_ble_eq_true rfl, Nat.le_of_ble_eq_true rfl⟩) ⟨Pre0.blind, va_recv hKc hPc (ci := 11) (q0 := 0) rfl rfl, Pre0.give hPc hKc hDc hT hS hFc⟩ rfl rfl hl.1 rfl (lv_room (Nat.le_of_ble_eq_true rfl)) dX6_digest_24 ⟨Nat.le_of_ble_eq_true rfl, Nat.le_of_ble_eq_true rfl⟩) hS (fun q _ h => hFc q h) hFc (fun r_4 u t H1 locs ht hvm hw hB hz1 hk1 hS => ?_)
  obtain ⟨hP1, hK1, hD1⟩ := hB
  rw [ht] at hP1
  have hK1 := va_K.moved hvm.symm hK1
  obtain ⟨hP, hD⟩ := va_join (wr := [(rq, .inl (ci, 119, .inl (fun _ => 0))), (sbq, .inr (1, [.ref vq, .int 0, .int 0, .int 0]))]) (w1 := [(h0, .inr (11, [.int 0, .int 0, .int 0, .int 0, .ref rq, .ref sbq]))]) hP hD [2] [0, 1] rfl rfl (by decide) (by decide) hk1 hFc hP1 hD1
  generalize H1 = H at hP hS ⊢
  have hP : va_P (dC, dI) vwCl [(rq, .inl (ci, 119, .inl (fun _ => 0))), (sbq, .inr (1, [.ref vq, .int 0, .int 0, .int 0])), (h0, .inr (11, [.int 0, .int 0, .int 0, .int 0, .ref rq, .ref sbq]))] H := hP
  have hD : va_D A [(rq, .inl (ci, 119, .inl (fun _ => 0))), (sbq, .inr (1, [.ref vq, .int 0, .int 0, .int 0])), (h0, .inr (11, [.int 0, .int 0, .int 0, .int 0, .ref rq, .ref sbq]))] := hD
  refine W.widen (k := 0) (n := 0) (by omega) (by omega) ?_
  obtain rfl : r_4 = 0 := hw
  refine lv_i2l (v := 0) hx hb dX6_digest_27 (by decide) ?_
  refine lv_ladd hx hb dX6_digest_28 ?_
  refine lv_lstore_n (lv' := [(1, .long ((((541 * 31) + 0) * 31) + 0)), (3, .int 1), (0, .ref h0)]) hx hb dX6_digest_29 rfl hl (by decide) rfl (fun ls hl => ?_)
  refine lv_iinc (v := 2) (lv' := [(3, .int 2), (1, .long ((((541 * 31) + 0) * 31) + 0)), (0, .ref h0)]) hx hb dX6_digest_30 hl (k := 1) rfl (by decide) (by decide) rfl (fun ls hl => ?_)
  refine lv_goto (tgt := 11) hx hb dX6_digest_33 (by decide) ?_
  refine lv_iload_n hx hb dX6_digest_11 rfl (lv_at hl 0 rfl) ?_
  refine lv_bipush (v := 8) hx hb dX6_digest_12 (by decide) ?_
  refine lv_icmp_ge (tgt := 36) hx hb dX6_digest_14 (by decide) (fun c_5 => absurd c_5 (by decide)) (fun _ => ?_)
  refine lv_lload_n hx hb dX6_digest_17 rfl (lv_at hl 1 rfl) ?_
  refine lv_ldc2 (v := 31) hx hb hown (hts (.constantLong RX6 166 (31)) (List.mem_of_getElem? (i := 3) rfl)) dX6_digest_18 ?_
  refine lv_lmul hx hb dX6_digest_21 ?_
  refine lv_aload_n hx hb dX6_digest_22 rfl (lv_at hl 2 rfl) ?_
  refine lv_iload_n hx hb dX6_digest_23 rfl (lv_at hl 0 rfl) ?_
  have hPc := hP.sub (ws' := [(h0, .inr (11, [.int 0, .int 0, .int 0, .int 0, .ref rq, .ref sbq]))]) [2] rfl
  have hDc := hD.sub (ws' := [(h0, .inr (11, [.int 0, .int 0, .int 0, .int 0, .ref rq, .ref sbq]))]) [2] (by decide) rfl
  have hKc := hK.sub (tys' := []) [] rfl
  have hFc := va_free (wc := [(h0, .inr (11, [.int 0, .int 0, .int 0, .int 0, .ref rq, .ref sbq]))]) hD hS hA [2] rfl
  refine va_calli (va_runV (As := [.int 2]) (rest := [.long (((((541 * 31) + 0) * 31) + 0) * 31)]) ⟨hx, hb, hml, hown, hts⟩ (c_counted_2 l hl9 dC dI tE h0 rq sbq 0 _ ) (cwV 1 hts (goodIn_app (goodIn_r _ [7, 8, 9, 10] (by rfl) (by decide +kernel)) gg_c_M_digest_c_counted_2) rfl rfl rfl (by decide +kernel) ⟨Nat.le_of_ble_eq_true rfl, Nat.le_of_ble_eq_true rfl⟩) ⟨Pre0.blind, va_recv hKc hPc (ci := 11) (q0 := 0) rfl rfl, Pre0.give hPc hKc hDc hT hS hFc⟩ rfl rfl hl.1 rfl (lv_room (Nat.le_of_ble_eq_true rfl)) dX6_digest_24 ⟨Nat.le_of_ble_eq_true rfl, Nat.le_of_ble_eq_true rfl⟩) hS (fun q _ h => hFc q h) hFc (fun r_6 u t H1 locs ht hvm hw hB hz1 hk1 hS => ?_)
  obtain ⟨hP1, hK1, hD1⟩ := hB
  rw [ht] at hP1
  have hK1 := va_K.moved hvm.symm hK1
  obtain ⟨hP, hD⟩ := va_join (wr := [(rq, .inl (ci, 119, .inl (fun _ => 0))), (sbq, .inr (1, [.ref vq, .int 0, .int 0, .int 0]))]) (w1 := [(h0, .inr (11, [.int 0, .int 0, .int 0, .int 0, .ref rq, .ref sbq]))]) hP hD [2] [0, 1] rfl rfl (by decide) (by decide) hk1 hFc hP1 hD1
  generalize H1 = H at hP hS ⊢
  have hP : va_P (dC, dI) vwCl [(rq, .inl (ci, 119, .inl (fun _ => 0))), (sbq, .inr (1, [.ref vq, .int 0, .int 0, .int 0])), (h0, .inr (11, [.int 0, .int 0, .int 0, .int 0, .ref rq, .ref sbq]))] H := hP
  have hD : va_D A [(rq, .inl (ci, 119, .inl (fun _ => 0))), (sbq, .inr (1, [.ref vq, .int 0, .int 0, .int 0])), (h0, .inr (11, [.int 0, .int 0, .int 0, .int 0, .ref rq, .ref sbq]))] := hD
  refine W.widen (k := 0) (n := 0) (by omega) (by omega) ?_
  obtain rfl : r_6 = 0 := hw
  refine lv_i2l (v := 0) hx hb dX6_digest_27 (by decide) ?_
  refine lv_ladd hx hb dX6_digest_28 ?_
  refine lv_lstore_n (lv' := [(1, .long ((((((541 * 31) + 0) * 31) + 0) * 31) + 0)), (3, .int 2), (0, .ref h0)]) hx hb dX6_digest_29 rfl hl (by decide) rfl (fun ls hl => ?_)
  refine lv_iinc (v := 3) (lv' := [(3, .int 3), (1, .long ((((((541 * 31) + 0) * 31) + 0) * 31) + 0)), (0, .ref h0)]) hx hb dX6_digest_30 hl (k := 1) rfl (by decide) (by decide) rfl (fun ls hl => ?_)
  refine lv_goto (tgt := 11) hx hb dX6_digest_33 (by decide) ?_
  refine lv_iload_n hx hb dX6_digest_11 rfl (lv_at hl 0 rfl) ?_
  refine lv_bipush (v := 8) hx hb dX6_digest_12 (by decide) ?_
  refine lv_icmp_ge (tgt := 36) hx hb dX6_digest_14 (by decide) (fun c_7 => absurd c_7 (by decide)) (fun _ => ?_)
  refine lv_lload_n hx hb dX6_digest_17 rfl (lv_at hl 1 rfl) ?_
  refine lv_ldc2 (v := 31) hx hb hown (hts (.constantLong RX6 166 (31)) (List.mem_of_getElem? (i := 3) rfl)) dX6_digest_18 ?_
  refine lv_lmul hx hb dX6_digest_21 ?_
  refine lv_aload_n hx hb dX6_digest_22 rfl (lv_at hl 2 rfl) ?_
  refine lv_iload_n hx hb dX6_digest_23 rfl (lv_at hl 0 rfl) ?_
  have hPc := hP.sub (ws' := [(h0, .inr (11, [.int 0, .int 0, .int 0, .int 0, .ref rq, .ref sbq]))]) [2] rfl
  have hDc := hD.sub (ws' := [(h0, .inr (11, [.int 0, .int 0, .int 0, .int 0, .ref rq, .ref sbq]))]) [2] (by decide) rfl
  have hKc := hK.sub (tys' := []) [] rfl
  have hFc := va_free (wc := [(h0, .inr (11, [.int 0, .int 0, .int 0, .int 0, .ref rq, .ref sbq]))]) hD hS hA [2] rfl
  refine va_calli (va_runV (As := [.int 3]) (rest := [.long (((((((541 * 31) + 0) * 31) + 0) * 31) + 0) * 31)]) ⟨hx, hb, hml, hown, hts⟩ (c_counted_3 l hl9 dC dI tE h0 rq sbq 0 _ ) (cwV 1 hts (goodIn_app (goodIn_r _ [7, 8, 9, 10] (by rfl) (by decide +kernel)) gg_c_M_digest_c_counted_3) rfl rfl rfl (by decide +kernel) ⟨Nat.le_of_ble_eq_true rfl, Nat.le_of_ble_eq_true rfl⟩) ⟨Pre0.blind, va_recv hKc hPc (ci := 11) (q0 := 0) rfl rfl, Pre0.give hPc hKc hDc hT hS hFc⟩ rfl rfl hl.1 rfl (lv_room (Nat.le_of_ble_eq_true rfl)) dX6_digest_24 ⟨Nat.le_of_ble_eq_true rfl, Nat.le_of_ble_eq_true rfl⟩) hS (fun q _ h => hFc q h) hFc (fun r_8 u t H1 locs ht hvm hw hB hz1 hk1 hS => ?_)
  obtain ⟨hP1, hK1, hD1⟩ := hB
  rw [ht] at hP1
  have hK1 := va_K.moved hvm.symm hK1
  obtain ⟨hP, hD⟩ := va_join (wr := [(rq, .inl (ci, 119, .inl (fun _ => 0))), (sbq, .inr (1, [.ref vq, .int 0, .int 0, .int 0]))]) (w1 := [(h0, .inr (11, [.int 0, .int 0, .int 0, .int 0, .ref rq, .ref sbq]))]) hP hD [2] [0, 1] rfl rfl (by decide) (by decide) hk1 hFc hP1 hD1
  generalize H1 = H at hP hS ⊢
  have hP : va_P (dC, dI) vwCl [(rq, .inl (ci, 119, .inl (fun _ => 0))), (sbq, .inr (1, [.ref vq, .int 0, .int 0, .int 0])), (h0, .inr (11, [.int 0, .int 0, .int 0, .int 0, .ref rq, .ref sbq]))] H := hP
  have hD : va_D A [(rq, .inl (ci, 119, .inl (fun _ => 0))), (sbq, .inr (1, [.ref vq, .int 0, .int 0, .int 0])), (h0, .inr (11, [.int 0, .int 0, .int 0, .int 0, .ref rq, .ref sbq]))] := hD
  refine W.widen (k := 0) (n := 0) (by omega) (by omega) ?_
  obtain rfl : r_8 = 0 := hw
  refine lv_i2l (v := 0) hx hb dX6_digest_27 (by decide) ?_
  refine lv_ladd hx hb dX6_digest_28 ?_
  refine lv_lstore_n (lv' := [(1, .long ((((((((541 * 31) + 0) * 31) + 0) * 31) + 0) * 31) + 0)), (3, .int 3), (0, .ref h0)]) hx hb dX6_digest_29 rfl hl (by decide) rfl (fun ls hl => ?_)
  refine lv_iinc (v := 4) (lv' := [(3, .int 4), (1, .long ((((((((541 * 31) + 0) * 31) + 0) * 31) + 0) * 31) + 0)), (0, .ref h0)]) hx hb dX6_digest_30 hl (k := 1) rfl (by decide) (by decide) rfl (fun ls hl => ?_)
  refine lv_goto (tgt := 11) hx hb dX6_digest_33 (by decide) ?_
  refine lv_iload_n hx hb dX6_digest_11 rfl (lv_at hl 0 rfl) ?_
  refine lv_bipush (v := 8) hx hb dX6_digest_12 (by decide) ?_
  refine lv_icmp_ge (tgt := 36) hx hb dX6_digest_14 (by decide) (fun c_9 => absurd c_9 (by decide)) (fun _ => ?_)
  refine lv_lload_n hx hb dX6_digest_17 rfl (lv_at hl 1 rfl) ?_
  refine lv_ldc2 (v := 31) hx hb hown (hts (.constantLong RX6 166 (31)) (List.mem_of_getElem? (i := 3) rfl)) dX6_digest_18 ?_
  refine lv_lmul hx hb dX6_digest_21 ?_
  refine lv_aload_n hx hb dX6_digest_22 rfl (lv_at hl 2 rfl) ?_
  refine lv_iload_n hx hb dX6_digest_23 rfl (lv_at hl 0 rfl) ?_
  have hPc := hP.sub (ws' := [(h0, .inr (11, [.int 0, .int 0, .int 0, .int 0, .ref rq, .ref sbq]))]) [2] rfl
  have hDc := hD.sub (ws' := [(h0, .inr (11, [.int 0, .int 0, .int 0, .int 0, .ref rq, .ref sbq]))]) [2] (by decide) rfl
  have hKc := hK.sub (tys' := []) [] rfl
  have hFc := va_free (wc := [(h0, .inr (11, [.int 0, .int 0, .int 0, .int 0, .ref rq, .ref sbq]))]) hD hS hA [2] rfl
  refine va_calli (va_runV (As := [.int 4]) (rest := [.long (((((((((541 * 31) + 0) * 31) + 0) * 31) + 0) * 31) + 0) * 31)]) ⟨hx, hb, hml, hown, hts⟩ (c_counted_4 l hl9 dC dI tE h0 rq sbq 0 _ ) (cwV 1 hts (goodIn_app (goodIn_r _ [7, 8, 9, 10] (by rfl) (by decide +kernel)) gg_c_M_digest_c_counted_4) rfl rfl rfl (by decide +kernel) ⟨Nat.le_of_ble_eq_true rfl, Nat.le_of_ble_eq_true rfl⟩) ⟨Pre0.blind, va_recv hKc hPc (ci := 11) (q0 := 0) rfl rfl, Pre0.give hPc hKc hDc hT hS hFc⟩ rfl rfl hl.1 rfl (lv_room (Nat.le_of_ble_eq_true rfl)) dX6_digest_24 ⟨Nat.le_of_ble_eq_true rfl, Nat.le_of_ble_eq_true rfl⟩) hS (fun q _ h => hFc q h) hFc (fun r_10 u t H1 locs ht hvm hw hB hz1 hk1 hS => ?_)
  obtain ⟨hP1, hK1, hD1⟩ := hB
  rw [ht] at hP1
  have hK1 := va_K.moved hvm.symm hK1
  obtain ⟨hP, hD⟩ := va_join (wr := [(rq, .inl (ci, 119, .inl (fun _ => 0))), (sbq, .inr (1, [.ref vq, .int 0, .int 0, .int 0]))]) (w1 := [(h0, .inr (11, [.int 0, .int 0, .int 0, .int 0, .ref rq, .ref sbq]))]) hP hD [2] [0, 1] rfl rfl (by decide) (by decide) hk1 hFc hP1 hD1
  generalize H1 = H at hP hS ⊢
  have hP : va_P (dC, dI) vwCl [(rq, .inl (ci, 119, .inl (fun _ => 0))), (sbq, .inr (1, [.ref vq, .int 0, .int 0, .int 0])), (h0, .inr (11, [.int 0, .int 0, .int 0, .int 0, .ref rq, .ref sbq]))] H := hP
  have hD : va_D A [(rq, .inl (ci, 119, .inl (fun _ => 0))), (sbq, .inr (1, [.ref vq, .int 0, .int 0, .int 0])), (h0, .inr (11, [.int 0, .int 0, .int 0, .int 0, .ref rq, .ref sbq]))] := hD
  refine W.widen (k := 0) (n := 0) (by omega) (by omega) ?_
  obtain rfl : r_10 = 0 := hw
  refine lv_i2l (v := 0) hx hb dX6_digest_27 (by decide) ?_
  refine lv_ladd hx hb dX6_digest_28 ?_
  refine lv_lstore_n (lv' := [(1, .long ((((((((((541 * 31) + 0) * 31) + 0) * 31) + 0) * 31) + 0) * 31) + 0)), (3, .int 4), (0, .ref h0)]) hx hb dX6_digest_29 rfl hl (by decide) rfl (fun ls hl => ?_)
  refine lv_iinc (v := 5) (lv' := [(3, .int 5), (1, .long ((((((((((541 * 31) + 0) * 31) + 0) * 31) + 0) * 31) + 0) * 31) + 0)), (0, .ref h0)]) hx hb dX6_digest_30 hl (k := 1) rfl (by decide) (by decide) rfl (fun ls hl => ?_)
  refine lv_goto (tgt := 11) hx hb dX6_digest_33 (by decide) ?_
  refine lv_iload_n hx hb dX6_digest_11 rfl (lv_at hl 0 rfl) ?_
  refine lv_bipush (v := 8) hx hb dX6_digest_12 (by decide) ?_
  refine lv_icmp_ge (tgt := 36) hx hb dX6_digest_14 (by decide) (fun c_11 => absurd c_11 (by decide)) (fun _ => ?_)
  refine lv_lload_n hx hb dX6_digest_17 rfl (lv_at hl 1 rfl) ?_
  refine lv_ldc2 (v := 31) hx hb hown (hts (.constantLong RX6 166 (31)) (List.mem_of_getElem? (i := 3) rfl)) dX6_digest_18 ?_
  refine lv_lmul hx hb dX6_digest_21 ?_
  refine lv_aload_n hx hb dX6_digest_22 rfl (lv_at hl 2 rfl) ?_
  refine lv_iload_n hx hb dX6_digest_23 rfl (lv_at hl 0 rfl) ?_
  have hPc := hP.sub (ws' := [(h0, .inr (11, [.int 0, .int 0, .int 0, .int 0, .ref rq, .ref sbq])), (rq, .inl (ci, 119, .inl (fun _ => 0)))]) [2, 0] rfl
  have hDc := hD.sub (ws' := [(h0, .inr (11, [.int 0, .int 0, .int 0, .int 0, .ref rq, .ref sbq])), (rq, .inl (ci, 119, .inl (fun _ => 0)))]) [2, 0] (by decide) rfl
  have hKc := hK.sub (tys' := [(ci, .int)]) [0] rfl
  have hFc := va_free (wc := [(h0, .inr (11, [.int 0, .int 0, .int 0, .int 0, .ref rq, .ref sbq])), (rq, .inl (ci, 119, .inl (fun _ => 0)))]) hD hS hA [2, 0] rfl
  refine va_calli (va_runV (As := [.int 5]) (rest := [.long (((((((((((541 * 31) + 0) * 31) + 0) * 31) + 0) * 31) + 0) * 31) + 0) * 31)]) ⟨hx, hb, hml, hown, hts⟩ (c_counted_5 l hl9 dC dI tE h0 rq sbq 0 ci _ ) (cwV 1 hts (goodIn_app (goodIn_r _ [7, 8, 9, 10] (by rfl) (by decide +kernel)) gg_c_M_digest_c_counted_5) rfl rfl rfl (by decide +kernel) ⟨Nat.le_of_ble_eq_true rfl, Nat.le_of_ble_eq_true rfl⟩) ⟨Pre0.blind, va_recv hKc hPc (ci := 11) (q0 := 0) rfl rfl, Pre0.give hPc hKc hDc hT hS hFc⟩ rfl rfl hl.1 rfl (lv_room (Nat.le_of_ble_eq_true rfl)) dX6_digest_24 ⟨Nat.le_of_ble_eq_true rfl, Nat.le_of_ble_eq_true rfl⟩) hS (fun q _ h => hFc q h) hFc (fun r_12 u t H1 locs ht hvm hw hB hz1 hk1 hS => ?_)
  obtain ⟨hP1, hK1, hD1⟩ := hB
  rw [ht] at hP1
  have hK1 := va_K.moved hvm.symm hK1
  obtain ⟨hP, hD⟩ := va_join (wr := [(sbq, .inr (1, [.ref vq, .int 0, .int 0, .int 0]))]) (w1 := [(h0, .inr (11, [.int 0, .int 0, .int 0, .int 0, .ref rq, .ref sbq])), (rq, .inl (ci, 119, .inl (fun _ => 0)))]) hP hD [2, 0] [1] rfl rfl (by decide) (by decide) hk1 hFc hP1 hD1
  generalize H1 = H at hP hS ⊢
  have hP : va_P (dC, dI) vwCl [(sbq, .inr (1, [.ref vq, .int 0, .int 0, .int 0])), (h0, .inr (11, [.int 0, .int 0, .int 0, .int 0, .ref rq, .ref sbq])), (rq, .inl (ci, 119, .inl (fun _ => 0)))] H := hP
  have hD : va_D A [(sbq, .inr (1, [.ref vq, .int 0, .int 0, .int 0])), (h0, .inr (11, [.int 0, .int 0, .int 0, .int 0, .ref rq, .ref sbq])), (rq, .inl (ci, 119, .inl (fun _ => 0)))] := hD
  refine W.widen (k := 0) (n := 0) (by omega) (by omega) ?_
  obtain rfl : r_12 = 0 := hw
  refine lv_i2l (v := 0) hx hb dX6_digest_27 (by decide) ?_
  refine lv_ladd hx hb dX6_digest_28 ?_
  refine lv_lstore_n (lv' := [(1, .long ((((((((((((541 * 31) + 0) * 31) + 0) * 31) + 0) * 31) + 0) * 31) + 0) * 31) + 0)), (3, .int 5), (0, .ref h0)]) hx hb dX6_digest_29 rfl hl (by decide) rfl (fun ls hl => ?_)
  refine lv_iinc (v := 6) (lv' := [(3, .int 6), (1, .long ((((((((((((541 * 31) + 0) * 31) + 0) * 31) + 0) * 31) + 0) * 31) + 0) * 31) + 0)), (0, .ref h0)]) hx hb dX6_digest_30 hl (k := 1) rfl (by decide) (by decide) rfl (fun ls hl => ?_)
  refine lv_goto (tgt := 11) hx hb dX6_digest_33 (by decide) ?_
  refine lv_iload_n hx hb dX6_digest_11 rfl (lv_at hl 0 rfl) ?_
  refine lv_bipush (v := 8) hx hb dX6_digest_12 (by decide) ?_
  refine lv_icmp_ge (tgt := 36) hx hb dX6_digest_14 (by decide) (fun c_13 => absurd c_13 (by decide)) (fun _ => ?_)
  refine lv_lload_n hx hb dX6_digest_17 rfl (lv_at hl 1 rfl) ?_
  refine lv_ldc2 (v := 31) hx hb hown (hts (.constantLong RX6 166 (31)) (List.mem_of_getElem? (i := 3) rfl)) dX6_digest_18 ?_
  refine lv_lmul hx hb dX6_digest_21 ?_
  refine lv_aload_n hx hb dX6_digest_22 rfl (lv_at hl 2 rfl) ?_
  refine lv_iload_n hx hb dX6_digest_23 rfl (lv_at hl 0 rfl) ?_
  have hPc := hP.sub (ws' := [(h0, .inr (11, [.int 0, .int 0, .int 0, .int 0, .ref rq, .ref sbq])), (rq, .inl (ci, 119, .inl (fun _ => 0)))]) [1, 2] rfl
  have hDc := hD.sub (ws' := [(h0, .inr (11, [.int 0, .int 0, .int 0, .int 0, .ref rq, .ref sbq])), (rq, .inl (ci, 119, .inl (fun _ => 0)))]) [1, 2] (by decide) rfl
  have hKc := hK.sub (tys' := [(ci, .int)]) [0] rfl
  have hFc := va_free (wc := [(h0, .inr (11, [.int 0, .int 0, .int 0, .int 0, .ref rq, .ref sbq])), (rq, .inl (ci, 119, .inl (fun _ => 0)))]) hD hS hA [1, 2] rfl
  refine va_calli (va_runV (As := [.int 6]) (rest := [.long (((((((((((((541 * 31) + 0) * 31) + 0) * 31) + 0) * 31) + 0) * 31) + 0) * 31) + 0) * 31)]) ⟨hx, hb, hml, hown, hts⟩ (c_counted_6 l hl9 dC dI tE h0 rq sbq 0 ci _ ) (cwV 1 hts (goodIn_app (goodIn_r _ [7, 8, 9, 10] (by rfl) (by decide +kernel)) gg_c_M_digest_c_counted_6) rfl rfl rfl (by decide +kernel) ⟨Nat.le_of_ble_eq_true rfl, Nat.le_of_ble_eq_true rfl⟩) ⟨Pre0.blind, va_recv hKc hPc (ci := 11) (q0 := 0) rfl rfl, Pre0.give hPc hKc hDc hT hS hFc⟩ rfl rfl hl.1 rfl (lv_room (Nat.le_of_ble_eq_true rfl)) dX6_digest_24 ⟨Nat.le_of_ble_eq_true rfl, Nat.le_of_ble_eq_true rfl⟩) hS (fun q _ h => hFc q h) hFc (fun r_14 u t H1 locs ht hvm hw hB hz1 hk1 hS => ?_)
  obtain ⟨hP1, hK1, hD1⟩ := hB
  rw [ht] at hP1
  have hK1 := va_K.moved hvm.symm hK1
  obtain ⟨hP, hD⟩ := va_join (wr := [(sbq, .inr (1, [.ref vq, .int 0, .int 0, .int 0]))]) (w1 := [(h0, .inr (11, [.int 0, .int 0, .int 0, .int 0, .ref rq, .ref sbq])), (rq, .inl (ci, 119, .inl (fun _ => 0)))]) hP hD [1, 2] [0] rfl rfl (by decide) (by decide) hk1 hFc hP1 hD1
  generalize H1 = H at hP hS ⊢
  have hP : va_P (dC, dI) vwCl [(sbq, .inr (1, [.ref vq, .int 0, .int 0, .int 0])), (h0, .inr (11, [.int 0, .int 0, .int 0, .int 0, .ref rq, .ref sbq])), (rq, .inl (ci, 119, .inl (fun _ => 0)))] H := hP
  have hD : va_D A [(sbq, .inr (1, [.ref vq, .int 0, .int 0, .int 0])), (h0, .inr (11, [.int 0, .int 0, .int 0, .int 0, .ref rq, .ref sbq])), (rq, .inl (ci, 119, .inl (fun _ => 0)))] := hD
  refine W.widen (k := 0) (n := 0) (by omega) (by omega) ?_
  obtain rfl : r_14 = 0 := hw
  refine lv_i2l (v := 0) hx hb dX6_digest_27 (by decide) ?_
  refine lv_ladd hx hb dX6_digest_28 ?_
  refine lv_lstore_n (lv' := [(1, .long ((((((((((((((541 * 31) + 0) * 31) + 0) * 31) + 0) * 31) + 0) * 31) + 0) * 31) + 0) * 31) + 0)), (3, .int 6), (0, .ref h0)]) hx hb dX6_digest_29 rfl hl (by decide) rfl (fun ls hl => ?_)
  refine lv_iinc (v := 7) (lv' := [(3, .int 7), (1, .long ((((((((((((((541 * 31) + 0) * 31) + 0) * 31) + 0) * 31) + 0) * 31) + 0) * 31) + 0) * 31) + 0)), (0, .ref h0)]) hx hb dX6_digest_30 hl (k := 1) rfl (by decide) (by decide) rfl (fun ls hl => ?_)
  refine lv_goto (tgt := 11) hx hb dX6_digest_33 (by decide) ?_
  refine lv_iload_n hx hb dX6_digest_11 rfl (lv_at hl 0 rfl) ?_
  refine lv_bipush (v := 8) hx hb dX6_digest_12 (by decide) ?_
  refine lv_icmp_ge (tgt := 36) hx hb dX6_digest_14 (by decide) (fun c_15 => absurd c_15 (by decide)) (fun _ => ?_)
  refine lv_lload_n hx hb dX6_digest_17 rfl (lv_at hl 1 rfl) ?_
  refine lv_ldc2 (v := 31) hx hb hown (hts (.constantLong RX6 166 (31)) (List.mem_of_getElem? (i := 3) rfl)) dX6_digest_18 ?_
  refine lv_lmul hx hb dX6_digest_21 ?_
  refine lv_aload_n hx hb dX6_digest_22 rfl (lv_at hl 2 rfl) ?_
  refine lv_iload_n hx hb dX6_digest_23 rfl (lv_at hl 0 rfl) ?_
  have hPc := hP.sub (ws' := [(h0, .inr (11, [.int 0, .int 0, .int 0, .int 0, .ref rq, .ref sbq])), (sbq, .inr (1, [.ref vq, .int 0, .int 0, .int 0]))]) [1, 0] rfl
  have hDc := hD.sub (ws' := [(h0, .inr (11, [.int 0, .int 0, .int 0, .int 0, .ref rq, .ref sbq])), (sbq, .inr (1, [.ref vq, .int 0, .int 0, .int 0]))]) [1, 0] (by decide) rfl
  have hKc := hK.sub (tys' := []) [] rfl
  have hFc := va_free (wc := [(h0, .inr (11, [.int 0, .int 0, .int 0, .int 0, .ref rq, .ref sbq])), (sbq, .inr (1, [.ref vq, .int 0, .int 0, .int 0]))]) hD hS hA [1, 0] rfl
  refine va_calli (va_runV (As := [.int 7]) (rest := [.long (((((((((((((((541 * 31) + 0) * 31) + 0) * 31) + 0) * 31) + 0) * 31) + 0) * 31) + 0) * 31) + 0) * 31)]) ⟨hx, hb, hml, hown, hts⟩ (c_counted_7 l hl9 dC dI tE h0 rq sbq 0 vq _ ) (cwV 1 hts (goodIn_app (goodIn_r _ [7, 8, 9, 10] (by rfl) (by decide +kernel)) gg_c_M_digest_c_counted_7) rfl rfl rfl (by decide +kernel) ⟨Nat.le_of_ble_eq_true rfl, Nat.le_of_ble_eq_true rfl⟩) ⟨Pre0.blind, va_recv hKc hPc (ci := 11) (q0 := 0) rfl rfl, Pre0.give hPc hKc hDc hT hS hFc⟩ rfl rfl hl.1 rfl (lv_room (Nat.le_of_ble_eq_true rfl)) dX6_digest_24 ⟨Nat.le_of_ble_eq_true rfl, Nat.le_of_ble_eq_true rfl⟩) hS (fun q _ h => hFc q h) hFc (fun r_16 u t H1 locs ht hvm hw hB hz1 hk1 hS => ?_)
  obtain ⟨hP1, hK1, hD1⟩ := hB
  rw [ht] at hP1
  have hK1 := va_K.moved hvm.symm hK1
  obtain ⟨hP, hD⟩ := va_join (wr := [(rq, .inl (ci, 119, .inl (fun _ => 0)))]) (w1 := [(h0, .inr (11, [.int 0, .int 0, .int 0, .int 0, .ref rq, .ref sbq])), (sbq, .inr (1, [.ref vq, .int 0, .int 0, .int 0]))]) hP hD [1, 0] [2] rfl rfl (by decide) (by decide) hk1 hFc hP1 hD1
  generalize H1 = H at hP hS ⊢
  have hP : va_P (dC, dI) vwCl [(rq, .inl (ci, 119, .inl (fun _ => 0))), (h0, .inr (11, [.int 0, .int 0, .int 0, .int 0, .ref rq, .ref sbq])), (sbq, .inr (1, [.ref vq, .int 0, .int 0, .int 0]))] H := hP
  have hD : va_D A [(rq, .inl (ci, 119, .inl (fun _ => 0))), (h0, .inr (11, [.int 0, .int 0, .int 0, .int 0, .ref rq, .ref sbq])), (sbq, .inr (1, [.ref vq, .int 0, .int 0, .int 0]))] := hD
  refine W.widen (k := 0) (n := 0) (by omega) (by omega) ?_
  obtain rfl : r_16 = 0 := hw
  refine lv_i2l (v := 0) hx hb dX6_digest_27 (by decide) ?_
  refine lv_ladd hx hb dX6_digest_28 ?_
  refine lv_lstore_n (lv' := [(1, .long ((((((((((((((((541 * 31) + 0) * 31) + 0) * 31) + 0) * 31) + 0) * 31) + 0) * 31) + 0) * 31) + 0) * 31) + 0)), (3, .int 7), (0, .ref h0)]) hx hb dX6_digest_29 rfl hl (by decide) rfl (fun ls hl => ?_)
  refine lv_iinc (v := 8) (lv' := [(3, .int 8), (1, .long ((((((((((((((((541 * 31) + 0) * 31) + 0) * 31) + 0) * 31) + 0) * 31) + 0) * 31) + 0) * 31) + 0) * 31) + 0)), (0, .ref h0)]) hx hb dX6_digest_30 hl (k := 1) rfl (by decide) (by decide) rfl (fun ls hl => ?_)
  refine lv_goto (tgt := 11) hx hb dX6_digest_33 (by decide) ?_
  refine lv_iload_n hx hb dX6_digest_11 rfl (lv_at hl 0 rfl) ?_
  refine lv_bipush (v := 8) hx hb dX6_digest_12 (by decide) ?_
  refine lv_icmp_ge (tgt := 36) hx hb dX6_digest_14 (by decide) (fun _ => ?_) (fun c_17 => absurd (by decide) c_17)
  refine lv_iconst (v := 0) hx hb dX6_digest_36 (by decide) ?_
  refine lv_istore_n (lv' := [(3, .int 0), (1, .long ((((((((((((((((541 * 31) + 0) * 31) + 0) * 31) + 0) * 31) + 0) * 31) + 0) * 31) + 0) * 31) + 0) * 31) + 0)), (0, .ref h0)]) hx hb dX6_digest_37 rfl hl (by decide) rfl (fun ls hl => ?_)
  refine lv_iload_n hx hb dX6_digest_38 rfl (lv_at hl 0 rfl) ?_
  refine lv_aload_n hx hb dX6_digest_39 rfl (lv_at hl 2 rfl) ?_
  refine va_get (D := (dC, dI)) (ci := 11) (v := .int 0) (C := RX6) (T := TX6) (N := 6) hx hb hts u_c_M_digest_X6 hown hK hP 1 rfl rfl 1 (by decide) (hts (.fieldLink RX6 24 "HotelOfBellsModel" "floors" "I") (List.mem_of_getElem? (i := 6) rfl)) (fun _ h9 => h9) rfl dX6_digest_40 ?_
  refine lv_icmp_ge (tgt := 83) hx hb dX6_digest_43 (by decide) (fun _ => ?_) (fun c_18 => absurd (by decide) c_18)
  refine lv_iconst (v := 0) hx hb dX6_digest_83 (by decide) ?_
  refine lv_istore_n (lv' := [(3, .int 0), (1, .long ((((((((((((((((541 * 31) + 0) * 31) + 0) * 31) + 0) * 31) + 0) * 31) + 0) * 31) + 0) * 31) + 0) * 31) + 0)), (0, .ref h0)]) hx hb dX6_digest_84 rfl hl (by decide) rfl (fun ls hl => ?_)
  refine lv_iload_n hx hb dX6_digest_85 rfl (lv_at hl 0 rfl) ?_
  refine lv_aload_n hx hb dX6_digest_86 rfl (lv_at hl 2 rfl) ?_
  refine va_get (D := (dC, dI)) (ci := 11) (v := .int 0) (C := RX6) (T := TX6) (N := 6) hx hb hts u_c_M_digest_X6 hown hK hP 1 rfl rfl 2 (by decide) (hts (.fieldLink RX6 31 "HotelOfBellsModel" "lifts" "I") (List.mem_of_getElem? (i := 11) rfl)) (fun _ h9 => h9) rfl dX6_digest_87 ?_
  refine lv_icmp_ge (tgt := 162) hx hb dX6_digest_90 (by decide) (fun _ => ?_) (fun c_19 => absurd (by decide) c_19)
  refine lv_iconst (v := 0) hx hb dX6_digest_162 (by decide) ?_
  refine lv_istore_n (lv' := [(3, .int 0), (1, .long ((((((((((((((((541 * 31) + 0) * 31) + 0) * 31) + 0) * 31) + 0) * 31) + 0) * 31) + 0) * 31) + 0) * 31) + 0)), (0, .ref h0)]) hx hb dX6_digest_163 rfl hl (by decide) rfl (fun ls hl => ?_)
  refine lv_iload_n hx hb dX6_digest_164 rfl (lv_at hl 0 rfl) ?_
  refine lv_aload_n hx hb dX6_digest_165 rfl (lv_at hl 2 rfl) ?_
  refine va_get (D := (dC, dI)) (ci := 11) (v := .int 0) (C := RX6) (T := TX6) (N := 6) hx hb hts u_c_M_digest_X6 hown hK hP 1 rfl rfl 3 (by decide) (hts (.fieldLink RX6 34 "HotelOfBellsModel" "guests" "I") (List.mem_of_getElem? (i := 5) rfl)) (fun _ h9 => h9) rfl dX6_digest_166 ?_
  refine lv_icmp_ge (tgt := 209) hx hb dX6_digest_169 (by decide) (fun _ => ?_) (fun c_20 => absurd (by decide) c_20)
  refine lv_iconst (v := 0) hx hb dX6_digest_209 (by decide) ?_
  refine lv_istore_n (lv' := [(3, .int 0), (1, .long ((((((((((((((((541 * 31) + 0) * 31) + 0) * 31) + 0) * 31) + 0) * 31) + 0) * 31) + 0) * 31) + 0) * 31) + 0)), (0, .ref h0)]) hx hb dX6_digest_210 rfl hl (by decide) rfl (fun ls hl => ?_)
  refine lv_iload_n hx hb dX6_digest_211 rfl (lv_at hl 0 rfl) ?_
  refine lv_aload_n hx hb dX6_digest_212 rfl (lv_at hl 2 rfl) ?_
  refine va_get (D := (dC, dI)) (ci := 11) (v := .ref sbq) (C := RX6) (T := TX6) (N := 6) hx hb hts u_c_M_digest_X6 hown hK hP 1 rfl rfl 5 (by decide) (hts (.fieldLink RX6 16 "HotelOfBellsModel" "paper" "Ljava/lang/StringBuilder;") (List.mem_of_getElem? (i := 13) rfl)) (fun _ h9 => h9) rfl dX6_digest_213 ?_
  have hPc := hP.sub (ws' := [(sbq, .inr (1, [.ref vq, .int 0, .int 0, .int 0]))]) [2] rfl
  have hDc := hD.sub (ws' := [(sbq, .inr (1, [.ref vq, .int 0, .int 0, .int 0]))]) [2] (by decide) rfl
  have hKc := hK.sub (tys' := []) [] rfl
  have hFc := va_free (wc := [(sbq, .inr (1, [.ref vq, .int 0, .int 0, .int 0]))]) hD hS hA [2] rfl
  refine va_calli (va_runV (As := []) (rest := [.int 0]) ⟨hx, hb, hml, hown, hts⟩ (c_SB_len l hl9 dC dI tE sbq vq _ ) (cwV 0 hts (goodIn_app (goodIn_r _ [22, 23, 24, 25] (by rfl) (by decide +kernel)) gg_c_M_digest_c_SB_len) rfl rfl rfl (by decide +kernel) ⟨Nat.le_of_ble_eq_true rfl, Nat.le_of_ble_eq_true rfl⟩) ⟨Pre0.blind, va_recv hKc hPc (ci := 1) (q0 := 0) rfl rfl, Pre0.give hPc hKc hDc hT hS hFc⟩ rfl rfl hl.1 rfl (lv_room (Nat.le_of_ble_eq_true rfl)) dX6_digest_216 ⟨Nat.le_of_ble_eq_true rfl, Nat.le_of_ble_eq_true rfl⟩) hS (fun q _ h => hFc q h) hFc (fun r_21 u t H1 locs ht hvm hw hB hz1 hk1 hS => ?_)
  obtain ⟨hP1, hK1, hD1⟩ := hB
  rw [ht] at hP1
  have hK1 := va_K.moved hvm.symm hK1
  obtain ⟨hP, hD⟩ := va_join (wr := [(rq, .inl (ci, 119, .inl (fun _ => 0))), (h0, .inr (11, [.int 0, .int 0, .int 0, .int 0, .ref rq, .ref sbq]))]) (w1 := [(sbq, .inr (1, [.ref vq, .int 0, .int 0, .int 0]))]) hP hD [2] [0, 1] rfl rfl (by decide) (by decide) hk1 hFc hP1 hD1
  generalize H1 = H at hP hS ⊢
  have hP : va_P (dC, dI) vwCl [(rq, .inl (ci, 119, .inl (fun _ => 0))), (h0, .inr (11, [.int 0, .int 0, .int 0, .int 0, .ref rq, .ref sbq])), (sbq, .inr (1, [.ref vq, .int 0, .int 0, .int 0]))] H := hP
  have hD : va_D A [(rq, .inl (ci, 119, .inl (fun _ => 0))), (h0, .inr (11, [.int 0, .int 0, .int 0, .int 0, .ref rq, .ref sbq])), (sbq, .inr (1, [.ref vq, .int 0, .int 0, .int 0]))] := hD
  refine W.widen (k := 0) (n := 0) (by omega) (by omega) ?_
  obtain rfl : r_21 = 0 := hw
  refine lv_icmp_ge (tgt := 244) hx hb dX6_digest_219 (by decide) (fun _ => ?_) (fun c_22 => absurd (by decide) c_22)
  refine lv_lload_n hx hb dX6_digest_244 rfl (lv_at hl 1 rfl) ?_
  have hP9 := hP.sub (ws' := [(rq, .inl (ci, 119, .inl (fun _ => 0))), (h0, .inr (11, [.int 0, .int 0, .int 0, .int 0, .ref rq, .ref sbq])), (sbq, .inr (1, [.ref vq, .int 0, .int 0, .int 0]))]) [0, 1, 2] rfl
  have hD9 := hD.sub (ws' := [(rq, .inl (ci, 119, .inl (fun _ => 0))), (h0, .inr (11, [.int 0, .int 0, .int 0, .int 0, .ref rq, .ref sbq])), (sbq, .inr (1, [.ref vq, .int 0, .int 0, .int 0]))]) [0, 1, 2] (by decide) rfl
  have hK9 := hK.sub (tys' := [(ci, .int)]) [0] rfl
  exact W.lret (v := (((((((((((((((541 * 31) + 0) * 31) + 0) * 31) + 0) * 31) + 0) * 31) + 0) * 31) + 0) * 31) + 0) * 31) + 0) hx hb hr (fun t ht hW => ⟨⟨(((((((((((((((541 * 31) + 0) * 31) + 0) * 31) + 0) * 31) + 0) * 31) + 0) * 31) + 0) * 31) + 0) * 31) + 0, (), rfl, (by decide), by rw [ht]; exact hP9, va_K.moved hW.alike hK9, hD9⟩, hS.F ht⟩) hS.2.2 dX6_digest_245
